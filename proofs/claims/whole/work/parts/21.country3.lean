theorem narrow_b2i (p : Prop) [Decidable p] : narrow .boolean (.int (b2i p)) = .int (b2i p) := by unfold b2i; split <;> rfl
set_option maxHeartbeats 600000 in
set_option maxRecDepth 100000 in
theorem c_X7_isWithin (l : Launch) (G : az_Gh) (d : Nat) (sh : List az_Sh) (sg : Nat → Nat → Int32) (la : Nat → Nat → Int64) (v m : Int32)  : FM l G (d) mX7_isWithin [.int v, .int m] (sh, sg, la) (some (.int (b2i (0 ≤ v ∧ v ≤ m)))) (sh, sg, la) := by
  refine az_fm knX7_isWithin (Nat.le_of_ble_eq_true rfl) rfl (fun Post hP => ?_)
  show AW l G mX7_isWithin (d) (az_F G Post) 0 0 0 [some (.int v), some (.int m)] [] (sh, sg, la)
  refine A_iload_n dX7_isWithin_0 rfl rfl ?_
  refine A_if_lt (tgt := 13) dX7_isWithin_1 rfl (fun h_1 => ?_) (fun h_1 => ?_)
  · skip
    refine A_iconst (v := 0) dX7_isWithin_13 (by decide) ?_
    refine A_zret dX7_isWithin_14 rfl (rfl) (az_pi hP ?_ (rfl))
    first | (refine b2i_t ⟨?_, ?_⟩ <;> simp_all [Int32.not_lt, Int32.not_le]; done) | (refine b2i_f (fun h => ?_); simp_all [← Int32.not_lt, ← Int32.not_le]; done)
  · skip
    refine A_iload_n dX7_isWithin_4 rfl rfl ?_
    refine A_iload_n dX7_isWithin_5 rfl rfl ?_
    refine A_icmp_gt (tgt := 13) dX7_isWithin_6 rfl (fun h_2 => ?_) (fun h_2 => ?_)
    · skip
      refine A_iconst (v := 0) dX7_isWithin_13 (by decide) ?_
      refine A_zret dX7_isWithin_14 rfl (rfl) (az_pi hP ?_ (rfl))
      first | (refine b2i_t ⟨?_, ?_⟩ <;> simp_all [Int32.not_lt, Int32.not_le]; done) | (refine b2i_f (fun h => ?_); simp_all [← Int32.not_lt, ← Int32.not_le]; done)
    · skip
      refine A_iconst (v := 1) dX7_isWithin_9 (by decide) ?_
      refine A_goto (tgt := 14) dX7_isWithin_10 rfl ?_
      refine A_zret dX7_isWithin_14 rfl (rfl) (az_pi hP ?_ (rfl))
      first | (refine b2i_t ⟨?_, ?_⟩ <;> simp_all [Int32.not_lt, Int32.not_le]; done) | (refine b2i_f (fun h => ?_); simp_all [← Int32.not_lt, ← Int32.not_le]; done)

set_option maxHeartbeats 600000 in
set_option maxRecDepth 100000 in
theorem c_X7_asNumber (l : Launch) (G : az_Gh) (d : Nat) (sh : List az_Sh) (sg : Nat → Nat → Int32) (la : Nat → Nat → Int64) (p : Prop) [Decidable p]  : FM l G (d) mX7_asNumber [.int (b2i p)] (sh, sg, la) (some (.int (b2i p))) (sh, sg, la) := by
  refine az_fm knX7_asNumber (Nat.le_of_ble_eq_true rfl) rfl (fun Post hP => ?_)
  show AW l G mX7_asNumber (d) (az_F G Post) 0 0 0 [some (.int (b2i p))] [] (sh, sg, la)
  refine A_iload_n dX7_asNumber_0 rfl rfl ?_
  refine A_if_eq (tgt := 8) dX7_asNumber_1 rfl (fun h_1 => ?_) (fun h_1 => ?_)
  · skip
    have h_1' := b2i_0.mp h_1
    refine A_iconst (v := 0) dX7_asNumber_8 (by decide) ?_
    refine A_iret dX7_asNumber_9 rfl (az_pi hP ?_ (rfl))
    first | exact b2i_t (b2i_n.mp h_1) | exact b2i_f (b2i_0.mp h_1)
  · skip
    have h_1' := b2i_n.mp h_1
    refine A_iconst (v := 1) dX7_asNumber_4 (by decide) ?_
    refine A_goto (tgt := 9) dX7_asNumber_5 rfl ?_
    refine A_iret dX7_asNumber_9 rfl (az_pi hP ?_ (rfl))
    first | exact b2i_t (b2i_n.mp h_1) | exact b2i_f (b2i_0.mp h_1)
set_option maxHeartbeats 600000 in
set_option maxRecDepth 100000 in
theorem z_X2_standsSo (l : Launch) (G : az_Gh) (d : Nat) (sh : List az_Sh) (sg : Nat → Nat → Int32) (la : Nat → Nat → Int64) (o : Nat) (c : CT)  (hC : az_at sh o (lyC o)) (hR : cRng c) : FM l G (d + 3) mX2_standsSo [.ref o] (sh, (zput sg o c), la) (some (.int (b2i (zso c = true)))) (sh, (zput sg o c), la) := by
  refine az_fm knX2_standsSo (Nat.le_of_ble_eq_true rfl) rfl (fun Post hP => ?_)
  show AW l G mX2_standsSo (d + 3) (az_F G Post) 0 0 0 [some (.ref o)] [] (sh, (zput sg o c), la)
  refine A_aload_n dX2_standsSo_0 rfl rfl ?_
  refine A_aload_n dX2_standsSo_1 rfl rfl ?_
  refine A_callV (n := 0) dX2_standsSo_2 kvX2_coldestOne mlX2_85 rfl (az_rc_obj clX2 (hC 0 _ rfl)) (z_X2_coldestOne l G d sh sg la o c hC (hR).1 (cRng_pos hR)) (by omega) (Nat.le_refl _) (Nat.le_refl _) rfl (Nat.le_of_ble_eq_true rfl) (fun r S1 hp => ?_)
  obtain ⟨rfl, rfl⟩ := hp
  show AW l G mX2_standsSo (d + 3) (az_F G Post) 0 0 5 [some (.ref o)] [.int (oI (zbest c)), .ref o] (sh, (zput sg o c), la)
  refine A_callV (n := 0) dX2_standsSo_5 kvX2_isHeard mlX2_89 rfl (az_rc_obj clX2 (hC 0 _ rfl)) (z_X2_isHeardO l G d sh sg la o c (zbest c) hC (hR).1 (fun k hk => zb_lt c _ k hk)) (by omega) (Nat.le_refl _) (Nat.le_refl _) rfl (Nat.le_of_ble_eq_true rfl) (fun r S1 hp => ?_)
  obtain ⟨rfl, rfl⟩ := hp
  show AW l G mX2_standsSo (d + 3) (az_F G Post) 0 0 8 [some (.ref o)] [.int (b2i (zspO c (zbest c) = true))] (sh, (zput sg o c), la)
  refine A_zret dX2_standsSo_8 rfl (narrow_b2i _) (az_pi hP ?_ (rfl))
  rfl
set_option maxHeartbeats 600000 in
set_option maxRecDepth 100000 in
theorem z_X2_isColder (l : Launch) (G : az_Gh) (d : Nat) (sh : List az_Sh) (sg : Nat → Nat → Int32) (la : Nat → Nat → Int64) (o : Nat) (c : CT) (p q : Nat) (hC : az_at sh o (lyC o)) (hO : cOk c) (hp : p < cN c) (hq : q < cN c) : FM l G (d + 2) mX2_isColder [.ref o, .int (nI p), .int (nI q)] (sh, (zput sg o c), la) (some (.int (b2i (zc c q < zc c p)))) (sh, (zput sg o c), la) := by
  refine az_fm knX2_isColder (Nat.le_of_ble_eq_true rfl) rfl (fun Post hP => ?_)
  show AW l G mX2_isColder (d + 2) (az_F G Post) 0 0 0 [some (.ref o), some (.int (nI p)), some (.int (nI q))] [] (sh, (zput sg o c), la)
  have h8 := hO.2
  refine A_aload_n dX2_isColder_0 rfl rfl ?_
  refine A_iload_n dX2_isColder_1 rfl rfl ?_
  refine A_callV (n := 0) dX2_isColder_2 kvX2_hasOne mlX2_69 rfl (az_rc_obj clX2 (hC 0 _ rfl)) (z_X2_hasOne_in l G (d + 1) sh sg la o c p hC hO (by omega)) (by omega) (Nat.le_refl _) (Nat.le_refl _) rfl (Nat.le_of_ble_eq_true rfl) (fun r S1 hp => ?_)
  obtain ⟨rfl, rfl⟩ := hp
  show AW l G mX2_isColder (d + 2) (az_F G Post) 0 0 5 [some (.ref o), some (.int (nI p)), some (.int (nI q))] [.int 1] (sh, (zput sg o c), la)
  refine A_if_eq (tgt := 45) dX2_isColder_5 rfl (fun h_1 => ?_) (fun h_1 => ?_)
  · skip
    exact absurd h_1 (by decide)
  · skip
    refine A_aload_n dX2_isColder_8 rfl rfl ?_
    refine A_iload_n dX2_isColder_9 rfl rfl ?_
    refine A_callV (n := 0) dX2_isColder_10 kvX2_hasOne mlX2_69 rfl (az_rc_obj clX2 (hC 0 _ rfl)) (z_X2_hasOne_in l G (d + 1) sh sg la o c q hC hO (by omega)) (by omega) (Nat.le_refl _) (Nat.le_refl _) rfl (Nat.le_of_ble_eq_true rfl) (fun r S1 hp => ?_)
    obtain ⟨rfl, rfl⟩ := hp
    show AW l G mX2_isColder (d + 2) (az_F G Post) 0 0 13 [some (.ref o), some (.int (nI p)), some (.int (nI q))] [.int 1] (sh, (zput sg o c), la)
    refine A_if_eq (tgt := 45) dX2_isColder_13 rfl (fun h_2 => ?_) (fun h_2 => ?_)
    · skip
      exact absurd h_2 (by decide)
    · skip
      refine A_aload_n dX2_isColder_16 rfl rfl ?_
      refine A_aload_n dX2_isColder_17 rfl rfl ?_
      refine B_getR (r := (o + 1)) dX2_isColder_18 flX2_9 (hC 0 _ rfl) rfl ?_
      refine A_iload_n dX2_isColder_21 rfl rfl ?_
      refine B_ialdV (i := p) (cKd c p) dX2_isColder_22 (hC 1 _ rfl) (by decide) (rfl) (by omega) (ze_1 _ _ _ _) ?_
      refine A_iload_n dX2_isColder_23 rfl rfl ?_
      refine A_callV (n := 0) dX2_isColder_24 kvX2_coldAs mlX2_79 rfl (az_rc_obj clX2 (hC 0 _ rfl)) (z_X2_coldAs l G d sh sg la o c p (cKd c p) hC hO (by omega)) (by omega) (Nat.le_refl _) (Nat.le_refl _) rfl (Nat.le_of_ble_eq_true rfl) (fun r S1 hp => ?_)
      obtain ⟨rfl, rfl⟩ := hp
      show AW l G mX2_isColder (d + 2) (az_F G Post) 0 0 27 [some (.ref o), some (.int (nI p)), some (.int (nI q))] [.int (zcT (cKd c p) c p)] (sh, (zput sg o c), la)
      refine A_aload_n dX2_isColder_27 rfl rfl ?_
      refine A_aload_n dX2_isColder_28 rfl rfl ?_
      refine B_getR (r := (o + 1)) dX2_isColder_29 flX2_9 (hC 0 _ rfl) rfl ?_
      refine A_iload_n dX2_isColder_32 rfl rfl ?_
      refine B_ialdV (i := q) (cKd c q) dX2_isColder_33 (hC 1 _ rfl) (by decide) (rfl) (by omega) (ze_1 _ _ _ _) ?_
      refine A_iload_n dX2_isColder_34 rfl rfl ?_
      refine A_callV (n := 0) dX2_isColder_35 kvX2_coldAs mlX2_79 rfl (az_rc_obj clX2 (hC 0 _ rfl)) (z_X2_coldAs l G d sh sg la o c q (cKd c q) hC hO (by omega)) (by omega) (Nat.le_refl _) (Nat.le_refl _) rfl (Nat.le_of_ble_eq_true rfl) (fun r S1 hp => ?_)
      obtain ⟨rfl, rfl⟩ := hp
      show AW l G mX2_isColder (d + 2) (az_F G Post) 0 0 38 [some (.ref o), some (.int (nI p)), some (.int (nI q))] [.int (zcT (cKd c q) c q), .int (zcT (cKd c p) c p)] (sh, (zput sg o c), la)
      refine A_icmp_le (tgt := 45) dX2_isColder_38 rfl (fun h_3 => ?_) (fun h_3 => ?_)
      · skip
        refine A_iconst (v := 0) dX2_isColder_45 (by decide) ?_
        refine A_zret dX2_isColder_46 rfl (rfl) (az_pi hP ?_ (rfl))
        exact b2i_f (Int32.not_lt.mpr h_3)
      · skip
        refine A_iconst (v := 1) dX2_isColder_41 (by decide) ?_
        refine A_goto (tgt := 46) dX2_isColder_42 rfl ?_
        refine A_zret dX2_isColder_46 rfl (rfl) (az_pi hP ?_ (rfl))
        exact b2i_t (Int32.not_le.mp h_3)
set_option maxHeartbeats 600000 in
set_option maxRecDepth 100000 in
theorem z_X2_ranked (l : Launch) (G : az_Gh) (d : Nat) (sh : List az_Sh) (sg : Nat → Nat → Int32) (la : Nat → Nat → Int64) (o : Nat) (c : CT) (place : Int32) (hC : az_at sh o (lyC o)) (hO : cOk c) : FM l G (d + 3) mX2_ranked [.ref o, .int place] (sh, (zput sg o c), la) (some (.int (oI (zrank c place)))) (sh, (zput sg o c), la) := by
  refine az_fm knX2_ranked (Nat.le_of_ble_eq_true rfl) rfl (fun Post hP => ?_)
  show AW l G mX2_ranked (d + 3) (az_F G Post) 0 0 0 [some (.ref o), some (.int place), none, none, none] [] (sh, (zput sg o c), la)
  have h8 := hO.2
  refine A_iconst (v := 0) dX2_ranked_0 (by decide) ?_
  refine A_istore_n (lo2 := [some (.ref o), some (.int place), some (.int 0), none, none]) dX2_ranked_1 rfl (by decide) rfl ?_
  have loop : ∀ (q_i9 i9 : Nat), i9 + q_i9 = cN c → (∀ k, k < i9 → ¬ nI (zbef c k) = place) → AW l G mX2_ranked (d + 3) (az_F G Post) 0 0 2 [some (.ref o), some (.int place), some (.int (nI i9)), none, none] [] (sh, (zput sg o c), la) := by
    intro q_i9
    induction q_i9 with
    | zero =>
      intro i9  hi_i9 hno 
      have hN_i9 : i9 = cN c := by omega
      subst hN_i9
      refine A_iload_n dX2_ranked_2 rfl rfl ?_
      refine A_aload_n dX2_ranked_3 rfl rfl ?_
      refine B_getV (nI (cN c)) dX2_ranked_4 flX2_27 (hC 0 _ rfl) rfl ((zr_5 _ _ _).trans hO.1) ?_
      refine A_icmp_ge (tgt := 72) dX2_ranked_7 rfl (fun h_1 => ?_) (fun h_1 => ?_)
      · skip
        refine A_iconst (v := (-1)) dX2_ranked_72 (by decide) ?_
        refine A_iret dX2_ranked_73 rfl (az_pi hP ?_ (rfl))
        (unfold zrank; rw [zfind_none (fun k hk => decide_eq_false (hno k hk))]; rfl)
      · skip
        exact absurd (Int32.le_refl _) h_1
    | succ q_i9 ih =>
      intro i9  hi_i9 hno 
      refine A_iload_n dX2_ranked_2 rfl rfl ?_
      refine A_aload_n dX2_ranked_3 rfl rfl ?_
      refine B_getV (nI (cN c)) dX2_ranked_4 flX2_27 (hC 0 _ rfl) rfl ((zr_5 _ _ _).trans hO.1) ?_
      refine A_icmp_ge (tgt := 72) dX2_ranked_7 rfl (fun h_2 => ?_) (fun h_2 => ?_)
      · skip
        exact absurd h_2 (nI_ge (by omega) (by omega))
      · skip
        refine A_iconst (v := 0) dX2_ranked_10 (by decide) ?_
        refine A_istore_n (lo2 := [some (.ref o), some (.int place), some (.int (nI i9)), some (.int 0), none]) dX2_ranked_11 rfl (by decide) rfl ?_
        refine A_iconst (v := 0) dX2_ranked_12 (by decide) ?_
        refine A_istore (lo2 := [some (.ref o), some (.int place), some (.int (nI i9)), some (.int 0), some (.int 0)]) dX2_ranked_13 (by decide) rfl ?_
        have loop2 : ∀ (q_j9 j9 : Nat) (x3 : Int32), j9 + q_j9 = cN c → x3 = nI (fa_cnt (fun j => decide (zc c i9 < zc c j) || (decide (j < i9) && !decide (zc c j < zc c i9))) j9) → AW l G mX2_ranked (d + 3) (az_F G Post) 0 0 15 [some (.ref o), some (.int place), some (.int (nI i9)), some (.int x3), some (.int (nI j9))] [] (sh, (zput sg o c), la) := by
          intro q_j9
          induction q_j9 with
          | zero =>
            intro j9 x3 hi_j9  e_x3
            have hN_j9 : j9 = cN c := by omega
            subst hN_j9
            refine A_iload dX2_ranked_15 rfl ?_
            refine A_aload_n dX2_ranked_17 rfl rfl ?_
            refine B_getV (nI (cN c)) dX2_ranked_18 flX2_27 (hC 0 _ rfl) rfl ((zr_5 _ _ _).trans hO.1) ?_
            refine A_icmp_ge (tgt := 59) dX2_ranked_21 rfl (fun h_3 => ?_) (fun h_3 => ?_)
            · skip
              refine A_iload_n dX2_ranked_59 rfl rfl ?_
              refine A_iload_n dX2_ranked_60 rfl rfl ?_
              refine A_icmp_ne (tgt := 66) dX2_ranked_61 rfl (fun h_4 => ?_) (fun h_4 => ?_)
              · skip
                refine A_iinc (v := nI (i9 + 1)) (lo2 := [some (.ref o), some (.int place), some (.int (nI (i9 + 1))), some (.int x3), some (.int (nI (cN c)))]) dX2_ranked_66 rfl (nI_1 i9) (by decide) rfl ?_
                refine A_goto (tgt := 2) dX2_ranked_69 rfl ?_
                refine A_forget (lo2 := [some (.ref o), some (.int place), some (.int (nI (i9 + 1))), none, none]) ⟨rfl, rfl, rfl, trivial⟩ ?_
                refine ih (i9 + 1) (by omega) (lt_s hno (by have q := h_4; rw [e_x3] at q; exact q))
              · skip
                refine A_iload_n dX2_ranked_64 rfl rfl ?_
                refine A_iret dX2_ranked_65 rfl (az_pi hP ?_ (rfl))
                (unfold zrank; rw [zfind_some (i := i9) (by omega) (decide_eq_true (by have q := h_4; rw [e_x3] at q; exact q)) (fun k hk => decide_eq_false (hno k hk))]; rfl)
            · skip
              exact absurd (Int32.le_refl _) h_3
          | succ q_j9 ih =>
            intro j9 x3 hi_j9  e_x3
            refine A_iload dX2_ranked_15 rfl ?_
            refine A_aload_n dX2_ranked_17 rfl rfl ?_
            refine B_getV (nI (cN c)) dX2_ranked_18 flX2_27 (hC 0 _ rfl) rfl ((zr_5 _ _ _).trans hO.1) ?_
            refine A_icmp_ge (tgt := 59) dX2_ranked_21 rfl (fun h_5 => ?_) (fun h_5 => ?_)
            · skip
              exact absurd h_5 (nI_ge (by omega) (by omega))
            · skip
              refine A_aload_n dX2_ranked_24 rfl rfl ?_
              refine A_iload dX2_ranked_25 rfl ?_
              refine A_iload_n dX2_ranked_27 rfl rfl ?_
              refine A_callV (n := 0) dX2_ranked_28 kvX2_isColder mlX2_92 rfl (az_rc_obj clX2 (hC 0 _ rfl)) (z_X2_isColder l G d sh sg la o c j9 i9 hC hO (by omega) (by omega)) (by omega) (Nat.le_refl _) (Nat.le_refl _) rfl (Nat.le_of_ble_eq_true rfl) (fun r S1 hp => ?_)
              obtain ⟨rfl, rfl⟩ := hp
              show AW l G mX2_ranked (d + 3) (az_F G Post) 0 0 31 [some (.ref o), some (.int place), some (.int (nI i9)), some (.int x3), some (.int (nI j9))] [.int (b2i (zc c i9 < zc c j9))] (sh, (zput sg o c), la)
              refine A_if_ne (tgt := 50) dX2_ranked_31 rfl (fun h_6 => ?_) (fun h_6 => ?_)
              · skip
                have h_6' := b2i_n.mp h_6
                refine A_iinc (v := (x3 + 1)) (lo2 := [some (.ref o), some (.int place), some (.int (nI i9)), some (.int (x3 + 1)), some (.int (nI j9))]) dX2_ranked_50 rfl rfl (by decide) rfl ?_
                refine A_iinc (v := nI (j9 + 1)) (lo2 := [some (.ref o), some (.int place), some (.int (nI i9)), some (.int (x3 + 1)), some (.int (nI (j9 + 1)))]) dX2_ranked_53 rfl (nI_1 j9) (by decide) rfl ?_
                refine A_goto (tgt := 15) dX2_ranked_56 rfl ?_
                refine ih (j9 + 1) _ (by omega) ?_
                · skip
                  rw [e_x3, fa_cnt_yes (p := (fun j => decide (zc c i9 < zc c j) || (decide (j < i9) && !decide (zc c j < zc c i9)))) (by simp [b2i_n.mp h_6])]; exact nI_1 _
              · skip
                have h_6' := b2i_0.mp h_6
                refine A_iload dX2_ranked_34 rfl ?_
                refine A_iload_n dX2_ranked_36 rfl rfl ?_
                refine A_icmp_ge (tgt := 53) dX2_ranked_37 rfl (fun h_7 => ?_) (fun h_7 => ?_)
                · skip
                  have hji : ¬ j9 < i9 := fun q => absurd h_7 (nI_ge q (by omega))
                  refine A_iinc (v := nI (j9 + 1)) (lo2 := [some (.ref o), some (.int place), some (.int (nI i9)), some (.int x3), some (.int (nI (j9 + 1)))]) dX2_ranked_53 rfl (nI_1 j9) (by decide) rfl ?_
                  refine A_goto (tgt := 15) dX2_ranked_56 rfl ?_
                  refine ih (j9 + 1) _ (by omega) ?_
                  · skip
                    rw [e_x3, fa_cnt_no (p := (fun j => decide (zc c i9 < zc c j) || (decide (j < i9) && !decide (zc c j < zc c i9)))) (by simp [b2i_0.mp h_6, hji])]
                · skip
                  have hji : j9 < i9 := by
                    rcases Nat.lt_or_ge j9 i9 with q | q
                    · exact q
                    · exact absurd (nI_le q (by omega)) h_7
                  refine A_aload_n dX2_ranked_40 rfl rfl ?_
                  refine A_iload_n dX2_ranked_41 rfl rfl ?_
                  refine A_iload dX2_ranked_42 rfl ?_
                  refine A_callV (n := 0) dX2_ranked_44 kvX2_isColder mlX2_92 rfl (az_rc_obj clX2 (hC 0 _ rfl)) (z_X2_isColder l G d sh sg la o c i9 j9 hC hO (by omega) (by omega)) (by omega) (Nat.le_refl _) (Nat.le_refl _) rfl (Nat.le_of_ble_eq_true rfl) (fun r S1 hp => ?_)
                  obtain ⟨rfl, rfl⟩ := hp
                  show AW l G mX2_ranked (d + 3) (az_F G Post) 0 0 47 [some (.ref o), some (.int place), some (.int (nI i9)), some (.int x3), some (.int (nI j9))] [.int (b2i (zc c j9 < zc c i9))] (sh, (zput sg o c), la)
                  refine A_if_ne (tgt := 53) dX2_ranked_47 rfl (fun h_8 => ?_) (fun h_8 => ?_)
                  · skip
                    have h_8' := b2i_n.mp h_8
                    refine A_iinc (v := nI (j9 + 1)) (lo2 := [some (.ref o), some (.int place), some (.int (nI i9)), some (.int x3), some (.int (nI (j9 + 1)))]) dX2_ranked_53 rfl (nI_1 j9) (by decide) rfl ?_
                    refine A_goto (tgt := 15) dX2_ranked_56 rfl ?_
                    refine ih (j9 + 1) _ (by omega) ?_
                    · skip
                      rw [e_x3, fa_cnt_no (p := (fun j => decide (zc c i9 < zc c j) || (decide (j < i9) && !decide (zc c j < zc c i9)))) (by simp [b2i_0.mp h_6, b2i_n.mp h_8])]
                  · skip
                    have h_8' := b2i_0.mp h_8
                    refine A_iinc (v := (x3 + 1)) (lo2 := [some (.ref o), some (.int place), some (.int (nI i9)), some (.int (x3 + 1)), some (.int (nI j9))]) dX2_ranked_50 rfl rfl (by decide) rfl ?_
                    refine A_iinc (v := nI (j9 + 1)) (lo2 := [some (.ref o), some (.int place), some (.int (nI i9)), some (.int (x3 + 1)), some (.int (nI (j9 + 1)))]) dX2_ranked_53 rfl (nI_1 j9) (by decide) rfl ?_
                    refine A_goto (tgt := 15) dX2_ranked_56 rfl ?_
                    refine ih (j9 + 1) _ (by omega) ?_
                    · skip
                      rw [e_x3, fa_cnt_yes (p := (fun j => decide (zc c i9 < zc c j) || (decide (j < i9) && !decide (zc c j < zc c i9)))) (by simp [b2i_0.mp h_6, hji, b2i_0.mp h_8])]; exact nI_1 _
        exact loop2 (cN c) 0 _ (by omega) (rfl)
  exact loop (cN c) 0 (by omega) lt_0
set_option maxHeartbeats 600000 in
set_option maxRecDepth 100000 in
theorem z_X2_feedMore (l : Launch) (G : az_Gh) (d : Nat) (sh : List az_Sh) (sg : Nat → Nat → Int32) (la : Nat → Nat → Int64) (o : Nat) (c : CT) (p : Nat) (n : Int32) (hC : az_at sh o (lyC o)) (hO : cOk c) (hp : p < cN c) : FM l G (d + 1) mX2_feedMore [.ref o, .int (nI p), .int n] (sh, (zput sg o c), la) (none) (sh, zput sg o (zmore c p n), la) := by
  refine az_fm knX2_feedMore (Nat.le_of_ble_eq_true rfl) rfl (fun Post hP => ?_)
  show AW l G mX2_feedMore (d + 1) (az_F G Post) 0 0 0 [some (.ref o), some (.int (nI p)), some (.int n)] [] (sh, (zput sg o c), la)
  have h8 := hO.2
  refine A_aload_n dX2_feedMore_0 rfl rfl ?_
  refine A_iload_n dX2_feedMore_1 rfl rfl ?_
  refine A_callV (n := 0) dX2_feedMore_2 kvX2_hasOne mlX2_69 rfl (az_rc_obj clX2 (hC 0 _ rfl)) (z_X2_hasOne_in l G d sh sg la o c p hC hO (by omega)) (by omega) (Nat.le_refl _) (Nat.le_refl _) rfl (Nat.le_of_ble_eq_true rfl) (fun r S1 hp => ?_)
  obtain ⟨rfl, rfl⟩ := hp
  show AW l G mX2_feedMore (d + 1) (az_F G Post) 0 0 5 [some (.ref o), some (.int (nI p)), some (.int n)] [.int 1] (sh, (zput sg o c), la)
  refine A_if_eq (tgt := 27) dX2_feedMore_5 rfl (fun h_1 => ?_) (fun h_1 => ?_)
  · skip
    exact absurd h_1 (by decide)
  · skip
    refine A_aload_n dX2_feedMore_8 rfl rfl ?_
    refine B_getR (r := (o + 5)) dX2_feedMore_9 flX2_24 (hC 0 _ rfl) rfl ?_
    refine A_iload_n dX2_feedMore_12 rfl rfl ?_
    refine A_bipush (v := 40) dX2_feedMore_13 (by decide) ?_
    refine A_aload_n dX2_feedMore_15 rfl rfl ?_
    refine B_getR (r := (o + 5)) dX2_feedMore_16 flX2_24 (hC 0 _ rfl) rfl ?_
    refine A_iload_n dX2_feedMore_19 rfl rfl ?_
    refine B_ialdV (i := p) (cFe c p) dX2_feedMore_20 (hC 5 _ rfl) (by decide) (rfl) (by omega) (ze_5 _ _ _ _) ?_
    refine A_iload_n dX2_feedMore_21 rfl rfl ?_
    refine A_iadd dX2_feedMore_22 ?_
    refine A_mnI dX2_feedMore_23 mlX2_96 (by omega) (Nat.le_of_ble_eq_true rfl) ?_
    refine B_iast (i := p) dX2_feedMore_26 (hC 5 _ rfl) (by decide) (rfl) (by omega) ?_
    refine B_sg (show _ = (zput sg o (sFe c (va_up (cFe c) p (mnI 40 (cFe c p + n))))) from zx_5 _ _ _ _ _) ?_
    exact A_vret dX2_feedMore_27 rfl (az_pv hP (rfl))
set_option maxHeartbeats 600000 in
set_option maxRecDepth 100000 in
theorem z_X2_feedMore_no (l : Launch) (G : az_Gh) (d : Nat) (sh : List az_Sh) (sg : Nat → Nat → Int32) (la : Nat → Nat → Int64) (o : Nat) (c : CT) (p : Nat) (n : Int32) (hC : az_at sh o (lyC o)) (hO : cOk c) (h31 : p < 2 ^ 31) (hp : ¬ p < cN c) : FM l G (d + 1) mX2_feedMore [.ref o, .int (nI p), .int n] (sh, (zput sg o c), la) (none) (sh, (zput sg o c), la) := by
  refine az_fm knX2_feedMore (Nat.le_of_ble_eq_true rfl) rfl (fun Post hP => ?_)
  show AW l G mX2_feedMore (d + 1) (az_F G Post) 0 0 0 [some (.ref o), some (.int (nI p)), some (.int n)] [] (sh, (zput sg o c), la)
  have h8 := hO.2
  refine A_aload_n dX2_feedMore_0 rfl rfl ?_
  refine A_iload_n dX2_feedMore_1 rfl rfl ?_
  refine A_callV (n := 0) dX2_feedMore_2 kvX2_hasOne mlX2_69 rfl (az_rc_obj clX2 (hC 0 _ rfl)) (z_X2_hasOne_no l G d sh sg la o c p hC hO h31 hp) (by omega) (Nat.le_refl _) (Nat.le_refl _) rfl (Nat.le_of_ble_eq_true rfl) (fun r S1 hp => ?_)
  obtain ⟨rfl, rfl⟩ := hp
  show AW l G mX2_feedMore (d + 1) (az_F G Post) 0 0 5 [some (.ref o), some (.int (nI p)), some (.int n)] [.int 0] (sh, (zput sg o c), la)
  refine A_if_eq (tgt := 27) dX2_feedMore_5 rfl (fun h_1 => ?_) (fun h_1 => ?_)
  · skip
    exact A_vret dX2_feedMore_27 rfl (az_pv hP (rfl))
  · skip
    exact absurd (by decide) h_1
set_option maxHeartbeats 600000 in
set_option maxRecDepth 100000 in
theorem z_X2_coolDown (l : Launch) (G : az_Gh) (d : Nat) (sh : List az_Sh) (sg : Nat → Nat → Int32) (la : Nat → Nat → Int64) (o : Nat) (c : CT) (k : Int32) (hC : az_at sh o (lyC o)) (hO : cOk c) : FM l G (d + 1) mX2_coolDown [.ref o, .int k] (sh, (zput sg o c), la) (none) (sh, zput sg o (zcool k c), la) := by
  refine az_fm knX2_coolDown (Nat.le_of_ble_eq_true rfl) rfl (fun Post hP => ?_)
  show AW l G mX2_coolDown (d + 1) (az_F G Post) 0 0 0 [some (.ref o), some (.int k), none] [] (sh, (zput sg o c), la)
  have h8 := hO.2
  refine A_aload_n dX2_coolDown_0 rfl rfl ?_
  refine A_iconst (v := 0) dX2_coolDown_1 (by decide) ?_
  refine A_aload_n dX2_coolDown_2 rfl rfl ?_
  refine B_getV (cAir c) dX2_coolDown_3 flX2_31 (hC 0 _ rfl) rfl (zr_6 _ _ _) ?_
  refine A_iload_n dX2_coolDown_6 rfl rfl ?_
  refine A_aload_n dX2_coolDown_7 rfl rfl ?_
  refine B_getV (cFall c) dX2_coolDown_8 flX2_34 (hC 0 _ rfl) rfl (zr_7 _ _ _) ?_
  refine A_imul dX2_coolDown_11 ?_
  refine A_isub dX2_coolDown_12 ?_
  refine A_mx0 dX2_coolDown_13 mlX2_73 (by omega) (Nat.le_of_ble_eq_true rfl) ?_
  refine B_putI dX2_coolDown_16 fwX2_31 (hC 0 _ rfl) rfl ?_
  refine B_sg (show _ = (zput sg o (sAir c (mx0 (cAir c - (k * cFall c))))) from zw_6 _ _ _ _) ?_
  refine A_iconst (v := 0) dX2_coolDown_19 (by decide) ?_
  refine A_istore_n (lo2 := [some (.ref o), some (.int k), some (.int 0)]) dX2_coolDown_20 rfl (by decide) rfl ?_
  have loop : ∀ (q_i9 i9 : Nat) (e1 : CT), i9 + q_i9 = cN c → e1 = cAF c (mx0 (cAir c - k * cFall c)) (fun j => if j < i9 then mx0 (cFe c j - k) else cFe c j) → AW l G mX2_coolDown (d + 1) (az_F G Post) 0 0 21 [some (.ref o), some (.int k), some (.int (nI i9))] [] (sh, (zput sg o e1), la) := by
    intro q_i9
    induction q_i9 with
    | zero =>
      intro i9 e1 hi_i9  e_e1
      have hN_i9 : i9 = cN c := by omega
      subst hN_i9
      refine A_iload_n dX2_coolDown_21 rfl rfl ?_
      refine A_aload_n dX2_coolDown_22 rfl rfl ?_
      refine B_getV (nI (cN c)) dX2_coolDown_23 flX2_27 (hC 0 _ rfl) rfl ((zr_5 _ _ _).trans (by rw [e_e1]; exact hO.1)) ?_
      refine A_icmp_ge (tgt := 53) dX2_coolDown_26 rfl (fun h_1 => ?_) (fun h_1 => ?_)
      · skip
        exact A_vret dX2_coolDown_53 rfl (az_pv hP (by rw [e_e1]; rfl))
      · skip
        exact absurd (Int32.le_refl _) h_1
    | succ q_i9 ih =>
      intro i9 e1 hi_i9  e_e1
      refine A_iload_n dX2_coolDown_21 rfl rfl ?_
      refine A_aload_n dX2_coolDown_22 rfl rfl ?_
      refine B_getV (nI (cN c)) dX2_coolDown_23 flX2_27 (hC 0 _ rfl) rfl ((zr_5 _ _ _).trans (by rw [e_e1]; exact hO.1)) ?_
      refine A_icmp_ge (tgt := 53) dX2_coolDown_26 rfl (fun h_2 => ?_) (fun h_2 => ?_)
      · skip
        exact absurd h_2 (nI_ge (by omega) (by omega))
      · skip
        refine A_aload_n dX2_coolDown_29 rfl rfl ?_
        refine B_getR (r := (o + 5)) dX2_coolDown_30 flX2_24 (hC 0 _ rfl) rfl ?_
        refine A_iload_n dX2_coolDown_33 rfl rfl ?_
        refine A_iconst (v := 0) dX2_coolDown_34 (by decide) ?_
        refine A_aload_n dX2_coolDown_35 rfl rfl ?_
        refine B_getR (r := (o + 5)) dX2_coolDown_36 flX2_24 (hC 0 _ rfl) rfl ?_
        refine A_iload_n dX2_coolDown_39 rfl rfl ?_
        refine B_ialdV (i := i9) (cFe e1 i9) dX2_coolDown_40 (hC 5 _ rfl) (by decide) (rfl) (by omega) (ze_5 _ _ _ _) ?_
        refine A_iload_n dX2_coolDown_41 rfl rfl ?_
        refine A_isub dX2_coolDown_42 ?_
        refine A_mx0 dX2_coolDown_43 mlX2_73 (by omega) (Nat.le_of_ble_eq_true rfl) ?_
        refine B_iast (i := i9) dX2_coolDown_46 (hC 5 _ rfl) (by decide) (rfl) (by omega) ?_
        refine B_sg (show _ = (zput sg o (sFe e1 (va_up (cFe e1) i9 (mx0 (cFe e1 i9 - k))))) from zx_5 _ _ _ _ _) ?_
        refine A_iinc (v := nI (i9 + 1)) (lo2 := [some (.ref o), some (.int k), some (.int (nI (i9 + 1)))]) dX2_coolDown_47 rfl (nI_1 i9) (by decide) rfl ?_
        refine A_goto (tgt := 21) dX2_coolDown_50 rfl ?_
        refine ih (i9 + 1) _ (by omega) ?_
        · skip
          subst e_e1
          rw [show cFe (cAF c (mx0 (cAir c - k * cFall c)) (fun j => if j < i9 then mx0 (cFe c j - k) else cFe c j)) i9 = cFe c i9 from if_neg (by omega)]
          exact cool_step c _ k i9
  exact loop (cN c) 0 _ (by omega) (show cAF c (mx0 (cAir c - k * cFall c)) (cFe c) = _ from congrArg (cAF c _) (funext fun j => (if_neg (by omega)).symm))
set_option maxHeartbeats 600000 in
set_option maxRecDepth 100000 in
theorem z_X2_passDay (l : Launch) (G : az_Gh) (d : Nat) (sh : List az_Sh) (sg : Nat → Nat → Int32) (la : Nat → Nat → Int64) (o : Nat) (c : CT)  (hC : az_at sh o (lyC o)) (hR : cRng c) : FM l G (d + 4) mX2_passDay [.ref o] (sh, (zput sg o c), la) (none) (sh, zput sg o (zpass c), la) := by
  refine az_fm knX2_passDay (Nat.le_of_ble_eq_true rfl) rfl (fun Post hP => ?_)
  show AW l G mX2_passDay (d + 4) (az_F G Post) 0 0 0 [some (.ref o)] [] (sh, (zput sg o c), la)
  have hO := hR.1
  have h8 := hO.2
  refine A_aload_n dX2_passDay_0 rfl rfl ?_
  refine B_getV (cWin c) dX2_passDay_1 flX2_40 (hC 0 _ rfl) rfl (zr_9 _ _ _) ?_
  refine A_iconst (v := (-1)) dX2_passDay_4 (by decide) ?_
  refine A_icmp_ne (tgt := 23) dX2_passDay_5 rfl (fun h_1 => ?_) (fun h_1 => ?_)
  · skip
    refine A_aload_n dX2_passDay_23 rfl rfl ?_
    refine A_iconst (v := 1) dX2_passDay_24 (by decide) ?_
    refine A_callV (n := 0) dX2_passDay_25 kvX2_coolDown mlX2_102 rfl (az_rc_obj clX2 (hC 0 _ rfl)) (z_X2_coolDown l G (d + 2) sh sg la o c 1 hC hO) (by omega) (Nat.le_refl _) (Nat.le_refl _) rfl (Nat.le_of_ble_eq_true rfl) (fun r S1 hp => ?_)
    obtain ⟨rfl, rfl⟩ := hp
    show AW l G mX2_passDay (d + 4) (az_F G Post) 0 0 28 [some (.ref o)] [] (sh, (zput sg o (zcool 1 c)), la)
    refine A_aload_n dX2_passDay_28 rfl rfl ?_
    refine A_sipush (v := 999) dX2_passDay_29 (by decide) ?_
    refine A_aload_n dX2_passDay_32 rfl rfl ?_
    refine B_getV (cDay (zcool 1 c)) dX2_passDay_33 flX2_37 (hC 0 _ rfl) rfl (zr_8 _ _ _) ?_
    refine A_iconst (v := 1) dX2_passDay_36 (by decide) ?_
    refine A_iadd dX2_passDay_37 ?_
    refine A_mnI dX2_passDay_38 mlX2_96 (by omega) (Nat.le_of_ble_eq_true rfl) ?_
    refine B_putI dX2_passDay_41 fwX2_37 (hC 0 _ rfl) rfl ?_
    refine B_sg (show _ = (zput sg o (sDay (zcool 1 c) (mnI 999 (cDay (zcool 1 c) + 1)))) from zw_8 _ _ _ _) ?_
    exact A_vret dX2_passDay_44 rfl (az_pv hP (by unfold zpass; rw [if_neg (fun q => absurd q.1 h_1)]))
  · skip
    refine A_aload_n dX2_passDay_8 rfl rfl ?_
    refine A_callV (n := 0) dX2_passDay_9 kvX2_standsSo mlX2_99 rfl (az_rc_obj clX2 (hC 0 _ rfl)) (z_X2_standsSo l G d sh sg la o c hC hR) (by omega) (Nat.le_refl _) (Nat.le_refl _) rfl (Nat.le_of_ble_eq_true rfl) (fun r S1 hp => ?_)
    obtain ⟨rfl, rfl⟩ := hp
    show AW l G mX2_passDay (d + 4) (az_F G Post) 0 0 12 [some (.ref o)] [.int (b2i (zso c = true))] (sh, (zput sg o c), la)
    refine A_if_eq (tgt := 23) dX2_passDay_12 rfl (fun h_2 => ?_) (fun h_2 => ?_)
    · skip
      have h_2' := b2i_0.mp h_2
      refine A_aload_n dX2_passDay_23 rfl rfl ?_
      refine A_iconst (v := 1) dX2_passDay_24 (by decide) ?_
      refine A_callV (n := 0) dX2_passDay_25 kvX2_coolDown mlX2_102 rfl (az_rc_obj clX2 (hC 0 _ rfl)) (z_X2_coolDown l G (d + 2) sh sg la o c 1 hC hO) (by omega) (Nat.le_refl _) (Nat.le_refl _) rfl (Nat.le_of_ble_eq_true rfl) (fun r S1 hp => ?_)
      obtain ⟨rfl, rfl⟩ := hp
      show AW l G mX2_passDay (d + 4) (az_F G Post) 0 0 28 [some (.ref o)] [] (sh, (zput sg o (zcool 1 c)), la)
      refine A_aload_n dX2_passDay_28 rfl rfl ?_
      refine A_sipush (v := 999) dX2_passDay_29 (by decide) ?_
      refine A_aload_n dX2_passDay_32 rfl rfl ?_
      refine B_getV (cDay (zcool 1 c)) dX2_passDay_33 flX2_37 (hC 0 _ rfl) rfl (zr_8 _ _ _) ?_
      refine A_iconst (v := 1) dX2_passDay_36 (by decide) ?_
      refine A_iadd dX2_passDay_37 ?_
      refine A_mnI dX2_passDay_38 mlX2_96 (by omega) (Nat.le_of_ble_eq_true rfl) ?_
      refine B_putI dX2_passDay_41 fwX2_37 (hC 0 _ rfl) rfl ?_
      refine B_sg (show _ = (zput sg o (sDay (zcool 1 c) (mnI 999 (cDay (zcool 1 c) + 1)))) from zw_8 _ _ _ _) ?_
      exact A_vret dX2_passDay_44 rfl (az_pv hP (by unfold zpass; rw [if_neg (fun q => absurd q.2 (b2i_0.mp h_2))]))
    · skip
      have h_2' := b2i_n.mp h_2
      refine A_aload_n dX2_passDay_15 rfl rfl ?_
      refine A_aload_n dX2_passDay_16 rfl rfl ?_
      refine B_getV (cDay c) dX2_passDay_17 flX2_37 (hC 0 _ rfl) rfl (zr_8 _ _ _) ?_
      refine B_putI dX2_passDay_20 fwX2_40 (hC 0 _ rfl) rfl ?_
      refine B_sg (show _ = (zput sg o (sWin c (cDay c))) from zw_9 _ _ _ _) ?_
      refine A_aload_n dX2_passDay_23 rfl rfl ?_
      refine A_iconst (v := 1) dX2_passDay_24 (by decide) ?_
      refine A_callV (n := 0) dX2_passDay_25 kvX2_coolDown mlX2_102 rfl (az_rc_obj clX2 (hC 0 _ rfl)) (z_X2_coolDown l G (d + 2) sh sg la o (sWin c (cDay c)) 1 hC hO) (by omega) (Nat.le_refl _) (Nat.le_refl _) rfl (Nat.le_of_ble_eq_true rfl) (fun r S1 hp => ?_)
      obtain ⟨rfl, rfl⟩ := hp
      show AW l G mX2_passDay (d + 4) (az_F G Post) 0 0 28 [some (.ref o)] [] (sh, (zput sg o (zcool 1 (sWin c (cDay c)))), la)
      refine A_aload_n dX2_passDay_28 rfl rfl ?_
      refine A_sipush (v := 999) dX2_passDay_29 (by decide) ?_
      refine A_aload_n dX2_passDay_32 rfl rfl ?_
      refine B_getV (cDay (zcool 1 (sWin c (cDay c)))) dX2_passDay_33 flX2_37 (hC 0 _ rfl) rfl (zr_8 _ _ _) ?_
      refine A_iconst (v := 1) dX2_passDay_36 (by decide) ?_
      refine A_iadd dX2_passDay_37 ?_
      refine A_mnI dX2_passDay_38 mlX2_96 (by omega) (Nat.le_of_ble_eq_true rfl) ?_
      refine B_putI dX2_passDay_41 fwX2_37 (hC 0 _ rfl) rfl ?_
      refine B_sg (show _ = (zput sg o (sDay (zcool 1 (sWin c (cDay c))) (mnI 999 (cDay (zcool 1 (sWin c (cDay c))) + 1)))) from zw_8 _ _ _ _) ?_
      exact A_vret dX2_passDay_44 rfl (az_pv hP (by unfold zpass; rw [if_pos ⟨h_1, b2i_n.mp h_2⟩]))
theorem zdays_PP (k : Nat) (c : CT) : cPp (zdays k c) = cPp c := by
  induction k with
  | zero => rfl
  | succ k ih => exact ih
set_option maxHeartbeats 600000 in
set_option maxRecDepth 100000 in
theorem z_X2_firstSo (l : Launch) (G : az_Gh) (d : Nat) (sh : List az_Sh) (sg : Nat → Nat → Int32) (la : Nat → Nat → Int64) (o : Nat) (c : CT) (m : Nat) (hC : az_at sh o (lyC o)) (hR : cRng c) (hm : m ≤ 100) : FM l G (d + 4) mX2_firstSo [.ref o, .int (nI m)] (sh, (zput sg o c), la) (some (.int (zwhenI c m))) (sh, zput sg o (zdays (zwhen c m) c), la) := by
  refine az_fm knX2_firstSo (Nat.le_of_ble_eq_true rfl) rfl (fun Post hP => ?_)
  show AW l G mX2_firstSo (d + 4) (az_F G Post) 0 0 0 [some (.ref o), some (.int (nI m)), none] [] (sh, (zput sg o c), la)
  have hO := hR.1
  have h8 := hO.2
  refine A_iconst (v := 0) dX2_firstSo_0 (by decide) ?_
  refine A_istore_n (lo2 := [some (.ref o), some (.int (nI m)), some (.int 0)]) dX2_firstSo_1 rfl (by decide) rfl ?_
  have loop : ∀ (q_i9 i9 : Nat) (e1 : CT), i9 + q_i9 = m + 1 → (∀ k, k < i9 → zso (zdays k c) = false) → e1 = zdays i9 c → AW l G mX2_firstSo (d + 4) (az_F G Post) 0 0 2 [some (.ref o), some (.int (nI m)), some (.int (nI i9))] [] (sh, (zput sg o e1), la) := by
    intro q_i9
    induction q_i9 with
    | zero =>
      intro i9 e1 hi_i9 hno e_e1
      have hN_i9 : i9 = m + 1 := by omega
      subst hN_i9
      refine A_iload_n dX2_firstSo_2 rfl rfl ?_
      refine A_iload_n dX2_firstSo_3 rfl rfl ?_
      refine A_icmp_gt (tgt := 27) dX2_firstSo_4 rfl (fun h_1 => ?_) (fun h_1 => ?_)
      · skip
        refine A_iconst (v := (-1)) dX2_firstSo_27 (by decide) ?_
        refine A_iret dX2_firstSo_28 rfl (az_pi hP ?_ (by rw [e_e1]; unfold zwhen; rw [fa_first_none hno]))
        unfold zwhenI zwhen; rw [fa_first_none hno, if_neg (by omega)]
      · skip
        exact absurd (nI_lt (by omega) (by omega)) h_1
    | succ q_i9 ih =>
      intro i9 e1 hi_i9 hno e_e1
      refine A_iload_n dX2_firstSo_2 rfl rfl ?_
      refine A_iload_n dX2_firstSo_3 rfl rfl ?_
      refine A_icmp_gt (tgt := 27) dX2_firstSo_4 rfl (fun h_2 => ?_) (fun h_2 => ?_)
      · skip
        exact absurd h_2 (nI_nlt (by omega) (by omega))
      · skip
        refine A_aload_n dX2_firstSo_7 rfl rfl ?_
        refine A_callV (n := 0) dX2_firstSo_8 kvX2_standsSo mlX2_99 rfl (az_rc_obj clX2 (hC 0 _ rfl)) (z_X2_standsSo l G d sh sg la o e1 hC (by rw [e_e1]; exact zdays_Rng hR _)) (by omega) (Nat.le_refl _) (Nat.le_refl _) rfl (Nat.le_of_ble_eq_true rfl) (fun r S1 hp => ?_)
        obtain ⟨rfl, rfl⟩ := hp
        show AW l G mX2_firstSo (d + 4) (az_F G Post) 0 0 11 [some (.ref o), some (.int (nI m)), some (.int (nI i9))] [.int (b2i (zso e1 = true))] (sh, (zput sg o e1), la)
        refine A_if_eq (tgt := 16) dX2_firstSo_11 rfl (fun h_3 => ?_) (fun h_3 => ?_)
        · skip
          have h_3' := b2i_0.mp h_3
          refine A_aload_n dX2_firstSo_16 rfl rfl ?_
          refine A_iconst (v := 1) dX2_firstSo_17 (by decide) ?_
          refine A_callV (n := 0) dX2_firstSo_18 kvX2_coolDown mlX2_102 rfl (az_rc_obj clX2 (hC 0 _ rfl)) (z_X2_coolDown l G (d + 2) sh sg la o e1 1 hC (by rw [e_e1]; exact (zdays_Rng hR _).1)) (by omega) (Nat.le_refl _) (Nat.le_refl _) rfl (Nat.le_of_ble_eq_true rfl) (fun r S1 hp => ?_)
          obtain ⟨rfl, rfl⟩ := hp
          show AW l G mX2_firstSo (d + 4) (az_F G Post) 0 0 21 [some (.ref o), some (.int (nI m)), some (.int (nI i9))] [] (sh, (zput sg o (zcool 1 e1)), la)
          refine A_iinc (v := nI (i9 + 1)) (lo2 := [some (.ref o), some (.int (nI m)), some (.int (nI (i9 + 1)))]) dX2_firstSo_21 rfl (nI_1 i9) (by decide) rfl ?_
          refine A_goto (tgt := 2) dX2_firstSo_24 rfl ?_
          refine ih (i9 + 1) _ (by omega) (lt_s hno (by have q := (b2i_0.mp h_3); rw [e_e1] at q; exact Bool.eq_false_iff.mpr q)) ?_
          · skip
            rw [e_e1]; rfl
        · skip
          have h_3' := b2i_n.mp h_3
          refine A_iload_n dX2_firstSo_14 rfl rfl ?_
          refine A_iret dX2_firstSo_15 rfl (az_pi hP ?_ (by rw [e_e1]; unfold zwhen; rw [(fa_first_eq (by omega) (by rw [← e_e1]; exact (b2i_n.mp h_3)) hno)]))
          unfold zwhenI zwhen; rw [(fa_first_eq (by omega) (by rw [← e_e1]; exact (b2i_n.mp h_3)) hno), if_pos (by omega)]
  exact loop (m + 1) 0 _ (by omega) lt_0 (rfl)
set_option maxHeartbeats 600000 in
set_option maxRecDepth 100000 in
theorem z_X2_allFed (l : Launch) (G : az_Gh) (d : Nat) (sh : List az_Sh) (sg : Nat → Nat → Int32) (la : Nat → Nat → Int64) (o : Nat) (c : CT)  (hC : az_at sh o (lyC o)) (hO : cOk c) : FM l G (d) mX2_allFed [.ref o] (sh, (zput sg o c), la) (some (.int (l_sum (cFe c) (cN c)))) (sh, (zput sg o c), la) := by
  refine az_fm knX2_allFed (Nat.le_of_ble_eq_true rfl) rfl (fun Post hP => ?_)
  show AW l G mX2_allFed (d) (az_F G Post) 0 0 0 [some (.ref o), none, none] [] (sh, (zput sg o c), la)
  have h8 := hO.2
  refine A_iconst (v := 0) dX2_allFed_0 (by decide) ?_
  refine A_istore_n (lo2 := [some (.ref o), some (.int 0), none]) dX2_allFed_1 rfl (by decide) rfl ?_
  refine A_iconst (v := 0) dX2_allFed_2 (by decide) ?_
  refine A_istore_n (lo2 := [some (.ref o), some (.int 0), some (.int 0)]) dX2_allFed_3 rfl (by decide) rfl ?_
  have loop : ∀ (q_i9 i9 : Nat) (x1 : Int32), i9 + q_i9 = cN c → x1 = l_sum (cFe c) i9 → AW l G mX2_allFed (d) (az_F G Post) 0 0 4 [some (.ref o), some (.int x1), some (.int (nI i9))] [] (sh, (zput sg o c), la) := by
    intro q_i9
    induction q_i9 with
    | zero =>
      intro i9 x1 hi_i9  e_x1
      have hN_i9 : i9 = cN c := by omega
      subst hN_i9
      refine A_iload_n dX2_allFed_4 rfl rfl ?_
      refine A_aload_n dX2_allFed_5 rfl rfl ?_
      refine B_getV (nI (cN c)) dX2_allFed_6 flX2_27 (hC 0 _ rfl) rfl ((zr_5 _ _ _).trans hO.1) ?_
      refine A_icmp_ge (tgt := 27) dX2_allFed_9 rfl (fun h_1 => ?_) (fun h_1 => ?_)
      · skip
        refine A_iload_n dX2_allFed_27 rfl rfl ?_
        refine A_iret dX2_allFed_28 rfl (az_pi hP ?_ (rfl))
        exact e_x1
      · skip
        exact absurd (Int32.le_refl _) h_1
    | succ q_i9 ih =>
      intro i9 x1 hi_i9  e_x1
      refine A_iload_n dX2_allFed_4 rfl rfl ?_
      refine A_aload_n dX2_allFed_5 rfl rfl ?_
      refine B_getV (nI (cN c)) dX2_allFed_6 flX2_27 (hC 0 _ rfl) rfl ((zr_5 _ _ _).trans hO.1) ?_
      refine A_icmp_ge (tgt := 27) dX2_allFed_9 rfl (fun h_2 => ?_) (fun h_2 => ?_)
      · skip
        exact absurd h_2 (nI_ge (by omega) (by omega))
      · skip
        refine A_iload_n dX2_allFed_12 rfl rfl ?_
        refine A_aload_n dX2_allFed_13 rfl rfl ?_
        refine B_getR (r := (o + 5)) dX2_allFed_14 flX2_24 (hC 0 _ rfl) rfl ?_
        refine A_iload_n dX2_allFed_17 rfl rfl ?_
        refine B_ialdV (i := i9) (cFe c i9) dX2_allFed_18 (hC 5 _ rfl) (by decide) (rfl) (by omega) (ze_5 _ _ _ _) ?_
        refine A_iadd dX2_allFed_19 ?_
        refine A_istore_n (lo2 := [some (.ref o), some (.int (x1 + cFe c i9)), some (.int (nI i9))]) dX2_allFed_20 rfl (by decide) rfl ?_
        refine A_iinc (v := nI (i9 + 1)) (lo2 := [some (.ref o), some (.int (x1 + cFe c i9)), some (.int (nI (i9 + 1)))]) dX2_allFed_21 rfl (nI_1 i9) (by decide) rfl ?_
        refine A_goto (tgt := 4) dX2_allFed_24 rfl ?_
        refine ih (i9 + 1) _ (by omega) ?_
        · skip
          rw [e_x1]; rfl
  exact loop (cN c) 0 _ (by omega) (rfl)
set_option maxHeartbeats 600000 in
set_option maxRecDepth 100000 in
theorem z_X2_countOf (l : Launch) (G : az_Gh) (d : Nat) (sh : List az_Sh) (sg : Nat → Nat → Int32) (la : Nat → Nat → Int64) (o : Nat) (c : CT) (k : Int32) (hC : az_at sh o (lyC o)) (hO : cOk c) : FM l G (d + 1) mX2_countOf [.ref o, .int k] (sh, (zput sg o c), la) (some (.int (l_sum (fun p => b2i (cKd c p = k)) (cN c)))) (sh, (zput sg o c), la) := by
  refine az_fm knX2_countOf (Nat.le_of_ble_eq_true rfl) rfl (fun Post hP => ?_)
  show AW l G mX2_countOf (d + 1) (az_F G Post) 0 0 0 [some (.ref o), some (.int k), none, none] [] (sh, (zput sg o c), la)
  have h8 := hO.2
  refine A_iconst (v := 0) dX2_countOf_0 (by decide) ?_
  refine A_istore_n (lo2 := [some (.ref o), some (.int k), some (.int 0), none]) dX2_countOf_1 rfl (by decide) rfl ?_
  refine A_iconst (v := 0) dX2_countOf_2 (by decide) ?_
  refine A_istore_n (lo2 := [some (.ref o), some (.int k), some (.int 0), some (.int 0)]) dX2_countOf_3 rfl (by decide) rfl ?_
  have loop : ∀ (q_i9 i9 : Nat) (x1 : Int32), i9 + q_i9 = cN c → x1 = l_sum (fun p => b2i (cKd c p = k)) i9 → AW l G mX2_countOf (d + 1) (az_F G Post) 0 0 4 [some (.ref o), some (.int k), some (.int x1), some (.int (nI i9))] [] (sh, (zput sg o c), la) := by
    intro q_i9
    induction q_i9 with
    | zero =>
      intro i9 x1 hi_i9  e_x1
      have hN_i9 : i9 = cN c := by omega
      subst hN_i9
      refine A_iload_n dX2_countOf_4 rfl rfl ?_
      refine A_aload_n dX2_countOf_5 rfl rfl ?_
      refine B_getV (nI (cN c)) dX2_countOf_6 flX2_27 (hC 0 _ rfl) rfl ((zr_5 _ _ _).trans hO.1) ?_
      refine A_icmp_ge (tgt := 39) dX2_countOf_9 rfl (fun h_1 => ?_) (fun h_1 => ?_)
      · skip
        refine A_iload_n dX2_countOf_39 rfl rfl ?_
        refine A_iret dX2_countOf_40 rfl (az_pi hP ?_ (rfl))
        exact e_x1
      · skip
        exact absurd (Int32.le_refl _) h_1
    | succ q_i9 ih =>
      intro i9 x1 hi_i9  e_x1
      refine A_iload_n dX2_countOf_4 rfl rfl ?_
      refine A_aload_n dX2_countOf_5 rfl rfl ?_
      refine B_getV (nI (cN c)) dX2_countOf_6 flX2_27 (hC 0 _ rfl) rfl ((zr_5 _ _ _).trans hO.1) ?_
      refine A_icmp_ge (tgt := 39) dX2_countOf_9 rfl (fun h_2 => ?_) (fun h_2 => ?_)
      · skip
        exact absurd h_2 (nI_ge (by omega) (by omega))
      · skip
        refine A_iload_n dX2_countOf_12 rfl rfl ?_
        refine A_aload_n dX2_countOf_13 rfl rfl ?_
        refine B_getR (r := (o + 1)) dX2_countOf_14 flX2_9 (hC 0 _ rfl) rfl ?_
        refine A_iload_n dX2_countOf_17 rfl rfl ?_
        refine B_ialdV (i := i9) (cKd c i9) dX2_countOf_18 (hC 1 _ rfl) (by decide) (rfl) (by omega) (ze_1 _ _ _ _) ?_
        refine A_iload_n dX2_countOf_19 rfl rfl ?_
        refine A_icmp_ne (tgt := 27) dX2_countOf_20 rfl (fun h_3 => ?_) (fun h_3 => ?_)
        · skip
          refine A_iconst (v := 0) dX2_countOf_27 (by decide) ?_
          refine B_top (b2i_f h_3) ?_
          refine A_callS (n := 0) dX2_countOf_28 ksX7_asNumber mlX2_65 rfl (c_X7_asNumber l G d sh (zput sg o c) la (cKd c i9 = k)) (by omega) (Nat.le_refl _) (Nat.le_refl _) rfl (Nat.le_of_ble_eq_true rfl) (fun r S1 hp => ?_)
          obtain ⟨rfl, rfl⟩ := hp
          show AW l G mX2_countOf (d + 1) (az_F G Post) 0 0 31 [some (.ref o), some (.int k), some (.int x1), some (.int (nI i9))] [.int (b2i (cKd c i9 = k)), .int x1] (sh, (zput sg o c), la)
          refine A_iadd dX2_countOf_31 ?_
          refine A_istore_n (lo2 := [some (.ref o), some (.int k), some (.int (x1 + b2i (cKd c i9 = k))), some (.int (nI i9))]) dX2_countOf_32 rfl (by decide) rfl ?_
          refine A_iinc (v := nI (i9 + 1)) (lo2 := [some (.ref o), some (.int k), some (.int (x1 + b2i (cKd c i9 = k))), some (.int (nI (i9 + 1)))]) dX2_countOf_33 rfl (nI_1 i9) (by decide) rfl ?_
          refine A_goto (tgt := 4) dX2_countOf_36 rfl ?_
          refine ih (i9 + 1) _ (by omega) ?_
          · skip
            rw [e_x1]; rfl
        · skip
          refine A_iconst (v := 1) dX2_countOf_23 (by decide) ?_
          refine A_goto (tgt := 28) dX2_countOf_24 rfl ?_
          refine B_top (b2i_t h_3) ?_
          refine A_callS (n := 0) dX2_countOf_28 ksX7_asNumber mlX2_65 rfl (c_X7_asNumber l G d sh (zput sg o c) la (cKd c i9 = k)) (by omega) (Nat.le_refl _) (Nat.le_refl _) rfl (Nat.le_of_ble_eq_true rfl) (fun r S1 hp => ?_)
          obtain ⟨rfl, rfl⟩ := hp
          show AW l G mX2_countOf (d + 1) (az_F G Post) 0 0 31 [some (.ref o), some (.int k), some (.int x1), some (.int (nI i9))] [.int (b2i (cKd c i9 = k)), .int x1] (sh, (zput sg o c), la)
          refine A_iadd dX2_countOf_31 ?_
          refine A_istore_n (lo2 := [some (.ref o), some (.int k), some (.int (x1 + b2i (cKd c i9 = k))), some (.int (nI i9))]) dX2_countOf_32 rfl (by decide) rfl ?_
          refine A_iinc (v := nI (i9 + 1)) (lo2 := [some (.ref o), some (.int k), some (.int (x1 + b2i (cKd c i9 = k))), some (.int (nI (i9 + 1)))]) dX2_countOf_33 rfl (nI_1 i9) (by decide) rfl ?_
          refine A_goto (tgt := 4) dX2_countOf_36 rfl ?_
          refine ih (i9 + 1) _ (by omega) ?_
          · skip
            rw [e_x1]; rfl
  exact loop (cN c) 0 _ (by omega) (rfl)
set_option maxHeartbeats 600000 in
set_option maxRecDepth 100000 in
theorem z_X2_drawBelow (l : Launch) (G : az_Gh) (d : Nat) (sh : List az_Sh) (sg : Nat → Nat → Int32) (la : Nat → Nat → Int64) (o : Nat) (c : CT) (n : Int32) (hC : az_at sh o (lyC o)) (hn : 0 < n) : FM l G (d) mX2_drawBelow [.ref o, .int n] (sh, (zput sg o c), la) (some (.int (zdraw c n))) (sh, zput sg o (zseed c), la) := by
  refine az_fm knX2_drawBelow (Nat.le_of_ble_eq_true rfl) rfl (fun Post hP => ?_)
  show AW l G mX2_drawBelow (d) (az_F G Post) 0 0 0 [some (.ref o), some (.int n)] [] (sh, (zput sg o c), la)
  refine A_aload_n dX2_drawBelow_0 rfl rfl ?_
  refine A_aload_n dX2_drawBelow_1 rfl rfl ?_
  refine B_getV (cSeed c) dX2_drawBelow_2 flX2_46 (hC 0 _ rfl) rfl (zr_11 _ _ _) ?_
  refine A_ldc (v := 1103515245) dX2_drawBelow_5 lcX2_106 ?_
  refine A_imul dX2_drawBelow_7 ?_
  refine A_sipush (v := 12345) dX2_drawBelow_8 (by decide) ?_
  refine A_iadd dX2_drawBelow_11 ?_
  refine B_putI dX2_drawBelow_12 fwX2_46 (hC 0 _ rfl) rfl ?_
  refine B_sg (show _ = (zput sg o (sSeed c ((cSeed c * 1103515245) + 12345))) from zw_11 _ _ _ _) ?_
  refine A_iload_n dX2_drawBelow_15 rfl rfl ?_
  refine A_if_le (tgt := 31) dX2_drawBelow_16 rfl (fun h_1 => ?_) (fun h_1 => ?_)
  · skip
    exact absurd h_1 (Int32.not_le.mpr hn)
  · skip
    refine A_aload_n dX2_drawBelow_19 rfl rfl ?_
    refine B_getV (((cSeed c * 1103515245) + 12345)) dX2_drawBelow_20 flX2_46 (hC 0 _ rfl) rfl (zr_11 _ _ _) ?_
    refine A_bipush (v := 16) dX2_drawBelow_23 (by decide) ?_
    refine A_iushr dX2_drawBelow_25 ?_
    refine A_iload_n dX2_drawBelow_26 rfl rfl ?_
    refine A_irem dX2_drawBelow_27 (fun q => absurd hn (by rw [q]; decide)) ?_
    refine A_goto (tgt := 32) dX2_drawBelow_28 rfl ?_
    refine A_iret dX2_drawBelow_32 rfl (az_pi hP ?_ (rfl))
    rfl
set_option maxHeartbeats 600000 in
set_option maxRecDepth 100000 in
theorem z_X2_settle (l : Launch) (G : az_Gh) (d : Nat) (sh : List az_Sh) (sg : Nat → Nat → Int32) (la : Nat → Nat → Int64) (o : Nat) (c : CT) (k a p : Int32) (hC : az_at sh o (lyC o)) (hO : cOk c) (h7 : cN c < 8) : FM l G (d + 1) mX2_settle [.ref o, .int k, .int a, .int p] (sh, (zput sg o c), la) (some (.int (nI (cN c)))) (sh, zput sg o (zsettle c k a p), la) := by
  refine az_fm knX2_settle (Nat.le_of_ble_eq_true rfl) rfl (fun Post hP => ?_)
  show AW l G mX2_settle (d + 1) (az_F G Post) 0 0 0 [some (.ref o), some (.int k), some (.int a), some (.int p), none] [] (sh, (zput sg o c), la)
  refine A_aload_n dX2_settle_0 rfl rfl ?_
  refine A_callV (n := 0) dX2_settle_1 kvX2_isFull mlX2_61 rfl (az_rc_obj clX2 (hC 0 _ rfl)) (z_X2_isFull l G d sh sg la o c hC) (by omega) (Nat.le_refl _) (Nat.le_refl _) rfl (Nat.le_of_ble_eq_true rfl) (fun r S1 hp => ?_)
  obtain ⟨rfl, rfl⟩ := hp
  show AW l G mX2_settle (d + 1) (az_F G Post) 0 0 4 [some (.ref o), some (.int k), some (.int a), some (.int p), none] [.int (b2i (8 ≤ cPp c))] (sh, (zput sg o c), la)
  refine A_if_eq (tgt := 9) dX2_settle_4 rfl (fun h_1 => ?_) (fun h_1 => ?_)
  · skip
    have h_1' := b2i_0.mp h_1
    refine A_aload_n dX2_settle_9 rfl rfl ?_
    refine A_dup dX2_settle_10 rfl ?_
    refine B_getV (nI (cN c)) dX2_settle_11 flX2_27 (hC 0 _ rfl) rfl ((zr_5 _ _ _).trans hO.1) ?_
    refine A_dup_x1 dX2_settle_14 rfl rfl ?_
    refine A_iconst (v := 1) dX2_settle_15 (by decide) ?_
    refine A_iadd dX2_settle_16 ?_
    refine B_putI dX2_settle_17 fwX2_27 (hC 0 _ rfl) rfl ?_
    refine B_sg (show _ = (zput sg o (sPp c (nI (cN c) + 1))) from zw_5 _ _ _ _) ?_
    refine A_istore (lo2 := [some (.ref o), some (.int k), some (.int a), some (.int p), some (.int (nI (cN c)))]) dX2_settle_20 (by decide) rfl ?_
    refine A_aload_n dX2_settle_22 rfl rfl ?_
    refine B_getR (r := (o + 1)) dX2_settle_23 flX2_9 (hC 0 _ rfl) rfl ?_
    refine A_iload dX2_settle_26 rfl ?_
    refine A_iload_n dX2_settle_28 rfl rfl ?_
    refine B_iast (i := (cN c)) dX2_settle_29 (hC 1 _ rfl) (by decide) (rfl) (by omega) ?_
    refine B_sg (show _ = (zput sg o (sKd (sPp c (nI (cN c) + 1)) (va_up (cKd c) (cN c) k))) from zx_1 _ _ _ _ _) ?_
    refine A_aload_n dX2_settle_30 rfl rfl ?_
    refine B_getR (r := (o + 2)) dX2_settle_31 flX2_15 (hC 0 _ rfl) rfl ?_
    refine A_iload dX2_settle_34 rfl ?_
    refine A_iload_n dX2_settle_36 rfl rfl ?_
    refine B_iast (i := (cN c)) dX2_settle_37 (hC 2 _ rfl) (by decide) (rfl) (by omega) ?_
    refine B_sg (show _ = (zput sg o (sAa (sKd (sPp c (nI (cN c) + 1)) (va_up (cKd c) (cN c) k)) (va_up (cAa c) (cN c) a))) from zx_2 _ _ _ _ _) ?_
    refine A_aload_n dX2_settle_38 rfl rfl ?_
    refine B_getR (r := (o + 3)) dX2_settle_39 flX2_18 (hC 0 _ rfl) rfl ?_
    refine A_iload dX2_settle_42 rfl ?_
    refine A_iload_n dX2_settle_44 rfl rfl ?_
    refine B_iast (i := (cN c)) dX2_settle_45 (hC 3 _ rfl) (by decide) (rfl) (by omega) ?_
    refine B_sg (show _ = (zput sg o (sPr (sAa (sKd (sPp c (nI (cN c) + 1)) (va_up (cKd c) (cN c) k)) (va_up (cAa c) (cN c) a)) (va_up (cPr c) (cN c) p))) from zx_3 _ _ _ _ _) ?_
    refine A_aload_n dX2_settle_46 rfl rfl ?_
    refine B_getR (r := (o + 4)) dX2_settle_47 flX2_21 (hC 0 _ rfl) rfl ?_
    refine A_iload dX2_settle_50 rfl ?_
    refine A_iconst (v := 0) dX2_settle_52 (by decide) ?_
    refine B_iast (i := (cN c)) dX2_settle_53 (hC 4 _ rfl) (by decide) (rfl) (by omega) ?_
    refine B_sg (show _ = (zput sg o (sBr (sPr (sAa (sKd (sPp c (nI (cN c) + 1)) (va_up (cKd c) (cN c) k)) (va_up (cAa c) (cN c) a)) (va_up (cPr c) (cN c) p)) (va_up (cBr c) (cN c) 0))) from zx_4 _ _ _ _ _) ?_
    refine A_aload_n dX2_settle_54 rfl rfl ?_
    refine B_getR (r := (o + 5)) dX2_settle_55 flX2_24 (hC 0 _ rfl) rfl ?_
    refine A_iload dX2_settle_58 rfl ?_
    refine A_iconst (v := 0) dX2_settle_60 (by decide) ?_
    refine B_iast (i := (cN c)) dX2_settle_61 (hC 5 _ rfl) (by decide) (rfl) (by omega) ?_
    refine B_sg (show _ = (zput sg o (sFe (sBr (sPr (sAa (sKd (sPp c (nI (cN c) + 1)) (va_up (cKd c) (cN c) k)) (va_up (cAa c) (cN c) a)) (va_up (cPr c) (cN c) p)) (va_up (cBr c) (cN c) 0)) (va_up (cFe c) (cN c) 0))) from zx_5 _ _ _ _ _) ?_
    refine A_aload_n dX2_settle_62 rfl rfl ?_
    refine A_dup dX2_settle_63 rfl ?_
    refine B_getV (cLov c) dX2_settle_64 flX2_49 (hC 0 _ rfl) rfl (zr_12 _ _ _) ?_
    refine A_iload_n dX2_settle_67 rfl rfl ?_
    refine A_iconst (v := 4) dX2_settle_68 (by decide) ?_
    refine A_icmp_ne (tgt := 76) dX2_settle_69 rfl (fun h_2 => ?_) (fun h_2 => ?_)
    · skip
      refine A_iconst (v := 0) dX2_settle_76 (by decide) ?_
      refine B_top (b2i_f h_2) ?_
      refine A_callS (n := 0) dX2_settle_77 ksX7_asNumber mlX2_65 rfl (c_X7_asNumber l G d sh (zput sg o (sFe (sBr (sPr (sAa (sKd (sPp c (nI (cN c) + 1)) (va_up (cKd c) (cN c) k)) (va_up (cAa c) (cN c) a)) (va_up (cPr c) (cN c) p)) (va_up (cBr c) (cN c) 0)) (va_up (cFe c) (cN c) 0))) la (k = 4)) (by omega) (Nat.le_refl _) (Nat.le_refl _) rfl (Nat.le_of_ble_eq_true rfl) (fun r S1 hp => ?_)
      obtain ⟨rfl, rfl⟩ := hp
      show AW l G mX2_settle (d + 1) (az_F G Post) 0 0 80 [some (.ref o), some (.int k), some (.int a), some (.int p), some (.int (nI (cN c)))] [.int (b2i (k = 4)), .int (cLov c), .ref o] (sh, (zput sg o (sFe (sBr (sPr (sAa (sKd (sPp c (nI (cN c) + 1)) (va_up (cKd c) (cN c) k)) (va_up (cAa c) (cN c) a)) (va_up (cPr c) (cN c) p)) (va_up (cBr c) (cN c) 0)) (va_up (cFe c) (cN c) 0))), la)
      refine A_iadd dX2_settle_80 ?_
      refine B_putI dX2_settle_81 fwX2_49 (hC 0 _ rfl) rfl ?_
      refine B_sg (show _ = (zput sg o (sLov (sFe (sBr (sPr (sAa (sKd (sPp c (nI (cN c) + 1)) (va_up (cKd c) (cN c) k)) (va_up (cAa c) (cN c) a)) (va_up (cPr c) (cN c) p)) (va_up (cBr c) (cN c) 0)) (va_up (cFe c) (cN c) 0)) (cLov c + b2i (k = 4)))) from zw_12 _ _ _ _) ?_
      refine A_iload dX2_settle_84 rfl ?_
      refine A_iret dX2_settle_86 rfl (az_pi hP ?_ (by rw [← hO.1, zsettle]))
      rfl
    · skip
      refine A_iconst (v := 1) dX2_settle_72 (by decide) ?_
      refine A_goto (tgt := 77) dX2_settle_73 rfl ?_
      refine B_top (b2i_t h_2) ?_
      refine A_callS (n := 0) dX2_settle_77 ksX7_asNumber mlX2_65 rfl (c_X7_asNumber l G d sh (zput sg o (sFe (sBr (sPr (sAa (sKd (sPp c (nI (cN c) + 1)) (va_up (cKd c) (cN c) k)) (va_up (cAa c) (cN c) a)) (va_up (cPr c) (cN c) p)) (va_up (cBr c) (cN c) 0)) (va_up (cFe c) (cN c) 0))) la (k = 4)) (by omega) (Nat.le_refl _) (Nat.le_refl _) rfl (Nat.le_of_ble_eq_true rfl) (fun r S1 hp => ?_)
      obtain ⟨rfl, rfl⟩ := hp
      show AW l G mX2_settle (d + 1) (az_F G Post) 0 0 80 [some (.ref o), some (.int k), some (.int a), some (.int p), some (.int (nI (cN c)))] [.int (b2i (k = 4)), .int (cLov c), .ref o] (sh, (zput sg o (sFe (sBr (sPr (sAa (sKd (sPp c (nI (cN c) + 1)) (va_up (cKd c) (cN c) k)) (va_up (cAa c) (cN c) a)) (va_up (cPr c) (cN c) p)) (va_up (cBr c) (cN c) 0)) (va_up (cFe c) (cN c) 0))), la)
      refine A_iadd dX2_settle_80 ?_
      refine B_putI dX2_settle_81 fwX2_49 (hC 0 _ rfl) rfl ?_
      refine B_sg (show _ = (zput sg o (sLov (sFe (sBr (sPr (sAa (sKd (sPp c (nI (cN c) + 1)) (va_up (cKd c) (cN c) k)) (va_up (cAa c) (cN c) a)) (va_up (cPr c) (cN c) p)) (va_up (cBr c) (cN c) 0)) (va_up (cFe c) (cN c) 0)) (cLov c + b2i (k = 4)))) from zw_12 _ _ _ _) ?_
      refine A_iload dX2_settle_84 rfl ?_
      refine A_iret dX2_settle_86 rfl (az_pi hP ?_ (by rw [← hO.1, zsettle]))
      rfl
  · skip
    have h_1' := b2i_n.mp h_1
    exact absurd (b2i_n.mp h_1) (by rw [hO.1]; exact nI_ge (b := 8) h7 (by decide))
set_option maxHeartbeats 600000 in
set_option maxRecDepth 100000 in
theorem z_X2_change0 (l : Launch) (G : az_Gh) (d : Nat) (sh : List az_Sh) (sg : Nat → Nat → Int32) (la : Nat → Nat → Int64) (o : Nat) (c : CT) (v : Int32) (hC : az_at sh o (lyC o))  : FM l G (d) mX2_change [.ref o, .int 0, .int v] (sh, (zput sg o c), la) (some (.int (cAir c))) (sh, zput sg o (sAir c v), la) := by
  refine az_fm knX2_change (Nat.le_of_ble_eq_true rfl) rfl (fun Post hP => ?_)
  show AW l G mX2_change (d) (az_F G Post) 0 0 0 [some (.ref o), some (.int 0), some (.int v), none] [] (sh, (zput sg o c), la)
  refine A_iload_n dX2_change_0 rfl rfl ?_
  refine A_tableIn (off := 27) (tgt := 28) dX2_change_1 (by decide) (by decide) rfl rfl ?_
  refine A_aload_n dX2_change_28 rfl rfl ?_
  refine B_getV (cAir c) dX2_change_29 flX2_31 (hC 0 _ rfl) rfl (zr_6 _ _ _) ?_
  refine A_istore_n (lo2 := [some (.ref o), some (.int 0), some (.int v), some (.int (cAir c))]) dX2_change_32 rfl (by decide) rfl ?_
  refine A_aload_n dX2_change_33 rfl rfl ?_
  refine A_iload_n dX2_change_34 rfl rfl ?_
  refine B_putI dX2_change_35 fwX2_31 (hC 0 _ rfl) rfl ?_
  refine B_sg (show _ = (zput sg o (sAir c v)) from zw_6 _ _ _ _) ?_
  refine A_goto (tgt := 77) dX2_change_38 rfl ?_
  refine A_iload_n dX2_change_77 rfl rfl ?_
  refine A_iret dX2_change_78 rfl (az_pi hP ?_ (rfl))
  rfl
set_option maxHeartbeats 600000 in
set_option maxRecDepth 100000 in
theorem z_X2_change1 (l : Launch) (G : az_Gh) (d : Nat) (sh : List az_Sh) (sg : Nat → Nat → Int32) (la : Nat → Nat → Int64) (o : Nat) (c : CT) (v : Int32) (hC : az_at sh o (lyC o))  : FM l G (d) mX2_change [.ref o, .int 1, .int v] (sh, (zput sg o c), la) (some (.int (cFall c))) (sh, zput sg o (sFall c v), la) := by
  refine az_fm knX2_change (Nat.le_of_ble_eq_true rfl) rfl (fun Post hP => ?_)
  show AW l G mX2_change (d) (az_F G Post) 0 0 0 [some (.ref o), some (.int 1), some (.int v), none] [] (sh, (zput sg o c), la)
  refine A_iload_n dX2_change_0 rfl rfl ?_
  refine A_tableIn (off := 40) (tgt := 41) dX2_change_1 (by decide) (by decide) rfl rfl ?_
  refine A_aload_n dX2_change_41 rfl rfl ?_
  refine B_getV (cFall c) dX2_change_42 flX2_34 (hC 0 _ rfl) rfl (zr_7 _ _ _) ?_
  refine A_istore_n (lo2 := [some (.ref o), some (.int 1), some (.int v), some (.int (cFall c))]) dX2_change_45 rfl (by decide) rfl ?_
  refine A_aload_n dX2_change_46 rfl rfl ?_
  refine A_iload_n dX2_change_47 rfl rfl ?_
  refine B_putI dX2_change_48 fwX2_34 (hC 0 _ rfl) rfl ?_
  refine B_sg (show _ = (zput sg o (sFall c v)) from zw_7 _ _ _ _) ?_
  refine A_goto (tgt := 77) dX2_change_51 rfl ?_
  refine A_iload_n dX2_change_77 rfl rfl ?_
  refine A_iret dX2_change_78 rfl (az_pi hP ?_ (rfl))
  rfl
set_option maxHeartbeats 600000 in
set_option maxRecDepth 100000 in
theorem z_X2_change2 (l : Launch) (G : az_Gh) (d : Nat) (sh : List az_Sh) (sg : Nat → Nat → Int32) (la : Nat → Nat → Int64) (o : Nat) (c : CT) (v : Int32) (hC : az_at sh o (lyC o))  : FM l G (d) mX2_change [.ref o, .int 2, .int v] (sh, (zput sg o c), la) (some (.int (cDay c))) (sh, zput sg o (sDay c v), la) := by
  refine az_fm knX2_change (Nat.le_of_ble_eq_true rfl) rfl (fun Post hP => ?_)
  show AW l G mX2_change (d) (az_F G Post) 0 0 0 [some (.ref o), some (.int 2), some (.int v), none] [] (sh, (zput sg o c), la)
  refine A_iload_n dX2_change_0 rfl rfl ?_
  refine A_tableIn (off := 53) (tgt := 54) dX2_change_1 (by decide) (by decide) rfl rfl ?_
  refine A_aload_n dX2_change_54 rfl rfl ?_
  refine B_getV (cDay c) dX2_change_55 flX2_37 (hC 0 _ rfl) rfl (zr_8 _ _ _) ?_
  refine A_istore_n (lo2 := [some (.ref o), some (.int 2), some (.int v), some (.int (cDay c))]) dX2_change_58 rfl (by decide) rfl ?_
  refine A_aload_n dX2_change_59 rfl rfl ?_
  refine A_iload_n dX2_change_60 rfl rfl ?_
  refine B_putI dX2_change_61 fwX2_37 (hC 0 _ rfl) rfl ?_
  refine B_sg (show _ = (zput sg o (sDay c v)) from zw_8 _ _ _ _) ?_
  refine A_goto (tgt := 77) dX2_change_64 rfl ?_
  refine A_iload_n dX2_change_77 rfl rfl ?_
  refine A_iret dX2_change_78 rfl (az_pi hP ?_ (rfl))
  rfl
set_option maxHeartbeats 600000 in
set_option maxRecDepth 100000 in
theorem z_X2_change3 (l : Launch) (G : az_Gh) (d : Nat) (sh : List az_Sh) (sg : Nat → Nat → Int32) (la : Nat → Nat → Int64) (o : Nat) (c : CT) (v : Int32) (hC : az_at sh o (lyC o))  : FM l G (d) mX2_change [.ref o, .int 3, .int v] (sh, (zput sg o c), la) (some (.int (cCoal c))) (sh, zput sg o (sCoal c v), la) := by
  refine az_fm knX2_change (Nat.le_of_ble_eq_true rfl) rfl (fun Post hP => ?_)
  show AW l G mX2_change (d) (az_F G Post) 0 0 0 [some (.ref o), some (.int 3), some (.int v), none] [] (sh, (zput sg o c), la)
  refine A_iload_n dX2_change_0 rfl rfl ?_
  refine A_tableOut (tgt := 67) dX2_change_1 (by decide) rfl ?_
  refine A_aload_n dX2_change_67 rfl rfl ?_
  refine B_getV (cCoal c) dX2_change_68 flX2_43 (hC 0 _ rfl) rfl (zr_10 _ _ _) ?_
  refine A_istore_n (lo2 := [some (.ref o), some (.int 3), some (.int v), some (.int (cCoal c))]) dX2_change_71 rfl (by decide) rfl ?_
  refine A_aload_n dX2_change_72 rfl rfl ?_
  refine A_iload_n dX2_change_73 rfl rfl ?_
  refine B_putI dX2_change_74 fwX2_43 (hC 0 _ rfl) rfl ?_
  refine B_sg (show _ = (zput sg o (sCoal c v)) from zw_10 _ _ _ _) ?_
  refine A_iload_n dX2_change_77 rfl rfl ?_
  refine A_iret dX2_change_78 rfl (az_pi hP ?_ (rfl))
  rfl
set_option maxHeartbeats 600000 in
set_option maxRecDepth 100000 in
theorem z_X2_leaveOut (l : Launch) (G : az_Gh) (d : Nat) (sh : List az_Sh) (sg : Nat → Nat → Int32) (la : Nat → Nat → Int64) (o : Nat) (c : CT) (p : Nat) (hC : az_at sh o (lyC o)) (hO : cOk c) (hp : p < cN c) (ha : cAway c = -1) : FM l G (d + 1) mX2_leaveOut [.ref o, .int (nI p)] (sh, (zput sg o c), la) (none) (sh, zput sg o (zleave c p), la) := by
  refine az_fm knX2_leaveOut (Nat.le_of_ble_eq_true rfl) rfl (fun Post hP => ?_)
  show AW l G mX2_leaveOut (d + 1) (az_F G Post) 0 0 0 [some (.ref o), some (.int (nI p))] [] (sh, (zput sg o c), la)
  have h8 := hO.2
  refine A_aload_n dX2_leaveOut_0 rfl rfl ?_
  refine A_iload_n dX2_leaveOut_1 rfl rfl ?_
  refine A_callV (n := 0) dX2_leaveOut_2 kvX2_hasOne mlX2_69 rfl (az_rc_obj clX2 (hC 0 _ rfl)) (z_X2_hasOne_in l G d sh sg la o c p hC hO (by omega)) (by omega) (Nat.le_refl _) (Nat.le_refl _) rfl (Nat.le_of_ble_eq_true rfl) (fun r S1 hp => ?_)
  obtain ⟨rfl, rfl⟩ := hp
  show AW l G mX2_leaveOut (d + 1) (az_F G Post) 0 0 5 [some (.ref o), some (.int (nI p))] [.int 1] (sh, (zput sg o c), la)
  refine A_if_eq (tgt := 48) dX2_leaveOut_5 rfl (fun h_1 => ?_) (fun h_1 => ?_)
  · skip
    exact absurd h_1 (by decide)
  · skip
    refine A_aload_n dX2_leaveOut_8 rfl rfl ?_
    refine B_getV (cAway c) dX2_leaveOut_9 flX2_52 (hC 0 _ rfl) rfl (zr_13 _ _ _) ?_
    refine A_iconst (v := (-1)) dX2_leaveOut_12 (by decide) ?_
    refine A_icmp_ne (tgt := 48) dX2_leaveOut_13 rfl (fun h_2 => ?_) (fun h_2 => ?_)
    · skip
      exact absurd ha h_2
    · skip
      refine A_aload_n dX2_leaveOut_16 rfl rfl ?_
      refine A_iload_n dX2_leaveOut_17 rfl rfl ?_
      refine B_putI dX2_leaveOut_18 fwX2_52 (hC 0 _ rfl) rfl ?_
      refine B_sg (show _ = (zput sg o (sAway c (nI p))) from zw_13 _ _ _ _) ?_
      refine A_aload_n dX2_leaveOut_21 rfl rfl ?_
      refine A_dup dX2_leaveOut_22 rfl ?_
      refine B_getV (cLov c) dX2_leaveOut_23 flX2_49 (hC 0 _ rfl) rfl (zr_12 _ _ _) ?_
      refine A_aload_n dX2_leaveOut_26 rfl rfl ?_
      refine B_getR (r := (o + 1)) dX2_leaveOut_27 flX2_9 (hC 0 _ rfl) rfl ?_
      refine A_iload_n dX2_leaveOut_30 rfl rfl ?_
      refine B_ialdV (i := p) (cKd c p) dX2_leaveOut_31 (hC 1 _ rfl) (by decide) (rfl) (by omega) (ze_1 _ _ _ _) ?_
      refine A_iconst (v := 4) dX2_leaveOut_32 (by decide) ?_
      refine A_icmp_ne (tgt := 40) dX2_leaveOut_33 rfl (fun h_3 => ?_) (fun h_3 => ?_)
      · skip
        refine A_iconst (v := 0) dX2_leaveOut_40 (by decide) ?_
        refine B_top (b2i_f h_3) ?_
        refine A_callS (n := 0) dX2_leaveOut_41 ksX7_asNumber mlX2_65 rfl (c_X7_asNumber l G d sh (zput sg o (sAway c (nI p))) la (cKd c p = 4)) (by omega) (Nat.le_refl _) (Nat.le_refl _) rfl (Nat.le_of_ble_eq_true rfl) (fun r S1 hp => ?_)
        obtain ⟨rfl, rfl⟩ := hp
        show AW l G mX2_leaveOut (d + 1) (az_F G Post) 0 0 44 [some (.ref o), some (.int (nI p))] [.int (b2i (cKd c p = 4)), .int (cLov c), .ref o] (sh, (zput sg o (sAway c (nI p))), la)
        refine A_isub dX2_leaveOut_44 ?_
        refine B_putI dX2_leaveOut_45 fwX2_49 (hC 0 _ rfl) rfl ?_
        refine B_sg (show _ = (zput sg o (sLov (sAway c (nI p)) (cLov c - b2i (cKd c p = 4)))) from zw_12 _ _ _ _) ?_
        exact A_vret dX2_leaveOut_48 rfl (az_pv hP (rfl))
      · skip
        refine A_iconst (v := 1) dX2_leaveOut_36 (by decide) ?_
        refine A_goto (tgt := 41) dX2_leaveOut_37 rfl ?_
        refine B_top (b2i_t h_3) ?_
        refine A_callS (n := 0) dX2_leaveOut_41 ksX7_asNumber mlX2_65 rfl (c_X7_asNumber l G d sh (zput sg o (sAway c (nI p))) la (cKd c p = 4)) (by omega) (Nat.le_refl _) (Nat.le_refl _) rfl (Nat.le_of_ble_eq_true rfl) (fun r S1 hp => ?_)
        obtain ⟨rfl, rfl⟩ := hp
        show AW l G mX2_leaveOut (d + 1) (az_F G Post) 0 0 44 [some (.ref o), some (.int (nI p))] [.int (b2i (cKd c p = 4)), .int (cLov c), .ref o] (sh, (zput sg o (sAway c (nI p))), la)
        refine A_isub dX2_leaveOut_44 ?_
        refine B_putI dX2_leaveOut_45 fwX2_49 (hC 0 _ rfl) rfl ?_
        refine B_sg (show _ = (zput sg o (sLov (sAway c (nI p)) (cLov c - b2i (cKd c p = 4)))) from zw_12 _ _ _ _) ?_
        exact A_vret dX2_leaveOut_48 rfl (az_pv hP (rfl))
theorem ld_1 {sg : Nat → Nat → Int32} {o o2 : Nat} {e : CT} (hd : o2 + 5 < o ∨ o + 6 ≤ o2) (h1 : ∀ j, 8 ≤ j → cKd e j = 0) (h2 : ∀ j, 8 ≤ j → cKd (ct sg o2) j = 0) : va_cpy (zput sg o e (o2 + 1)) (zput sg o e (o + 1)) 0 0 8 = cKd (ct sg o2) := by
  rw [zput_ne (k := o2 + 1) (by omega), za_1]
  exact cpy8 (fun j hj => (h2 j hj).trans (h1 j hj).symm)
theorem ld_2 {sg : Nat → Nat → Int32} {o o2 : Nat} {e : CT} (hd : o2 + 5 < o ∨ o + 6 ≤ o2) (h1 : ∀ j, 8 ≤ j → cAa e j = 0) (h2 : ∀ j, 8 ≤ j → cAa (ct sg o2) j = 0) : va_cpy (zput sg o e (o2 + 2)) (zput sg o e (o + 2)) 0 0 8 = cAa (ct sg o2) := by
  rw [zput_ne (k := o2 + 2) (by omega), za_2]
  exact cpy8 (fun j hj => (h2 j hj).trans (h1 j hj).symm)
theorem ld_3 {sg : Nat → Nat → Int32} {o o2 : Nat} {e : CT} (hd : o2 + 5 < o ∨ o + 6 ≤ o2) (h1 : ∀ j, 8 ≤ j → cPr e j = 0) (h2 : ∀ j, 8 ≤ j → cPr (ct sg o2) j = 0) : va_cpy (zput sg o e (o2 + 3)) (zput sg o e (o + 3)) 0 0 8 = cPr (ct sg o2) := by
  rw [zput_ne (k := o2 + 3) (by omega), za_3]
  exact cpy8 (fun j hj => (h2 j hj).trans (h1 j hj).symm)
theorem ld_4 {sg : Nat → Nat → Int32} {o o2 : Nat} {e : CT} (hd : o2 + 5 < o ∨ o + 6 ≤ o2) (h1 : ∀ j, 8 ≤ j → cBr e j = 0) (h2 : ∀ j, 8 ≤ j → cBr (ct sg o2) j = 0) : va_cpy (zput sg o e (o2 + 4)) (zput sg o e (o + 4)) 0 0 8 = cBr (ct sg o2) := by
  rw [zput_ne (k := o2 + 4) (by omega), za_4]
  exact cpy8 (fun j hj => (h2 j hj).trans (h1 j hj).symm)
theorem ld_5 {sg : Nat → Nat → Int32} {o o2 : Nat} {e : CT} (hd : o2 + 5 < o ∨ o + 6 ≤ o2) (h1 : ∀ j, 8 ≤ j → cFe e j = 0) (h2 : ∀ j, 8 ≤ j → cFe (ct sg o2) j = 0) : va_cpy (zput sg o e (o2 + 5)) (zput sg o e (o + 5)) 0 0 8 = cFe (ct sg o2) := by
  rw [zput_ne (k := o2 + 5) (by omega), za_5]
  exact cpy8 (fun j hj => (h2 j hj).trans (h1 j hj).symm)
set_option maxHeartbeats 600000 in
set_option maxRecDepth 100000 in
theorem z_X2_load (l : Launch) (G : az_Gh) (d : Nat) (sh : List az_Sh) (sg : Nat → Nat → Int32) (la : Nat → Nat → Int64) (o : Nat) (c : CT) (o2 : Nat) (hC : az_at sh o (lyC o)) (hC2 : az_at sh o2 (lyC o2)) (hd : o2 + 5 < o ∨ o + 6 ≤ o2) (ht : cTl c) (ht2 : cTl (ct sg o2)) : FM l G (d + 2) mX2_load [.ref o, .ref o2] (sh, (zput sg o c), la) (none) (sh, zput sg o (ct sg o2), la) := by
  refine az_fm knX2_load (Nat.le_of_ble_eq_true rfl) rfl (fun Post hP => ?_)
  show AW l G mX2_load (d + 2) (az_F G Post) 0 0 0 [some (.ref o), some (.ref o2)] [] (sh, (zput sg o c), la)
  refine A_aload_n dX2_load_0 rfl rfl ?_
  refine B_getR (r := (o2 + 1)) dX2_load_1 flX2_9 (hC2 0 _ rfl) rfl ?_
  refine A_iconst (v := 0) dX2_load_4 (by decide) ?_
  refine A_aload_n dX2_load_5 rfl rfl ?_
  refine B_getR (r := (o + 1)) dX2_load_6 flX2_9 (hC 0 _ rfl) rfl ?_
  refine A_iconst (v := 0) dX2_load_9 (by decide) ?_
  refine A_bipush (v := 8) dX2_load_10 (by decide) ?_
  refine B_copyI (sp := 0) (dp := 0) (n := 8) dX2_load_12 mlX2_55 w_ac1 w_ac2 w_ac3 (hC2 1 _ rfl) (hC 1 _ rfl) (rfl) (rfl) (rfl) (by decide) (by decide) (by decide) (by decide) (by omega) (Nat.le_of_ble_eq_true rfl) ?_
  refine B_sg (zu_1 _ _ _ _) ?_
  refine B_sg (congrArg (fun z => zput sg o (sKd c z)) (ld_1 hd (fun j hj => (ht j hj).1) (fun j hj => (ht2 j hj).1))) ?_
  refine A_aload_n dX2_load_15 rfl rfl ?_
  refine B_getR (r := (o2 + 2)) dX2_load_16 flX2_15 (hC2 0 _ rfl) rfl ?_
  refine A_iconst (v := 0) dX2_load_19 (by decide) ?_
  refine A_aload_n dX2_load_20 rfl rfl ?_
  refine B_getR (r := (o + 2)) dX2_load_21 flX2_15 (hC 0 _ rfl) rfl ?_
  refine A_iconst (v := 0) dX2_load_24 (by decide) ?_
  refine A_bipush (v := 8) dX2_load_25 (by decide) ?_
  refine B_copyI (sp := 0) (dp := 0) (n := 8) dX2_load_27 mlX2_55 w_ac1 w_ac2 w_ac3 (hC2 2 _ rfl) (hC 2 _ rfl) (rfl) (rfl) (rfl) (by decide) (by decide) (by decide) (by decide) (by omega) (Nat.le_of_ble_eq_true rfl) ?_
  refine B_sg (zu_2 _ _ _ _) ?_
  refine B_sg (congrArg (fun z => zput sg o (sAa (sKd c (cKd (ct sg o2))) z)) (ld_2 hd (fun j hj => (ht j hj).2.1) (fun j hj => (ht2 j hj).2.1))) ?_
  refine A_aload_n dX2_load_30 rfl rfl ?_
  refine B_getR (r := (o2 + 3)) dX2_load_31 flX2_18 (hC2 0 _ rfl) rfl ?_
  refine A_iconst (v := 0) dX2_load_34 (by decide) ?_
  refine A_aload_n dX2_load_35 rfl rfl ?_
  refine B_getR (r := (o + 3)) dX2_load_36 flX2_18 (hC 0 _ rfl) rfl ?_
  refine A_iconst (v := 0) dX2_load_39 (by decide) ?_
  refine A_bipush (v := 8) dX2_load_40 (by decide) ?_
  refine B_copyI (sp := 0) (dp := 0) (n := 8) dX2_load_42 mlX2_55 w_ac1 w_ac2 w_ac3 (hC2 3 _ rfl) (hC 3 _ rfl) (rfl) (rfl) (rfl) (by decide) (by decide) (by decide) (by decide) (by omega) (Nat.le_of_ble_eq_true rfl) ?_
  refine B_sg (zu_3 _ _ _ _) ?_
  refine B_sg (congrArg (fun z => zput sg o (sPr (sAa (sKd c (cKd (ct sg o2))) (cAa (ct sg o2))) z)) (ld_3 hd (fun j hj => (ht j hj).2.2.1) (fun j hj => (ht2 j hj).2.2.1))) ?_
  refine A_aload_n dX2_load_45 rfl rfl ?_
  refine B_getR (r := (o2 + 4)) dX2_load_46 flX2_21 (hC2 0 _ rfl) rfl ?_
  refine A_iconst (v := 0) dX2_load_49 (by decide) ?_
  refine A_aload_n dX2_load_50 rfl rfl ?_
  refine B_getR (r := (o + 4)) dX2_load_51 flX2_21 (hC 0 _ rfl) rfl ?_
  refine A_iconst (v := 0) dX2_load_54 (by decide) ?_
  refine A_bipush (v := 8) dX2_load_55 (by decide) ?_
  refine B_copyI (sp := 0) (dp := 0) (n := 8) dX2_load_57 mlX2_55 w_ac1 w_ac2 w_ac3 (hC2 4 _ rfl) (hC 4 _ rfl) (rfl) (rfl) (rfl) (by decide) (by decide) (by decide) (by decide) (by omega) (Nat.le_of_ble_eq_true rfl) ?_
  refine B_sg (zu_4 _ _ _ _) ?_
  refine B_sg (congrArg (fun z => zput sg o (sBr (sPr (sAa (sKd c (cKd (ct sg o2))) (cAa (ct sg o2))) (cPr (ct sg o2))) z)) (ld_4 hd (fun j hj => (ht j hj).2.2.2.1) (fun j hj => (ht2 j hj).2.2.2.1))) ?_
  refine A_aload_n dX2_load_60 rfl rfl ?_
  refine B_getR (r := (o2 + 5)) dX2_load_61 flX2_24 (hC2 0 _ rfl) rfl ?_
  refine A_iconst (v := 0) dX2_load_64 (by decide) ?_
  refine A_aload_n dX2_load_65 rfl rfl ?_
  refine B_getR (r := (o + 5)) dX2_load_66 flX2_24 (hC 0 _ rfl) rfl ?_
  refine A_iconst (v := 0) dX2_load_69 (by decide) ?_
  refine A_bipush (v := 8) dX2_load_70 (by decide) ?_
  refine B_copyI (sp := 0) (dp := 0) (n := 8) dX2_load_72 mlX2_55 w_ac1 w_ac2 w_ac3 (hC2 5 _ rfl) (hC 5 _ rfl) (rfl) (rfl) (rfl) (by decide) (by decide) (by decide) (by decide) (by omega) (Nat.le_of_ble_eq_true rfl) ?_
  refine B_sg (zu_5 _ _ _ _) ?_
  refine B_sg (congrArg (fun z => zput sg o (sFe (sBr (sPr (sAa (sKd c (cKd (ct sg o2))) (cAa (ct sg o2))) (cPr (ct sg o2))) (cBr (ct sg o2))) z)) (ld_5 hd (fun j hj => (ht j hj).2.2.2.2) (fun j hj => (ht2 j hj).2.2.2.2))) ?_
  refine A_aload_n dX2_load_75 rfl rfl ?_
  refine A_aload_n dX2_load_76 rfl rfl ?_
  refine B_getV (cPp (ct sg o2)) dX2_load_77 flX2_27 (hC2 0 _ rfl) rfl (congrFun (zput_ne (by omega)) 5) ?_
  refine B_putI dX2_load_80 fwX2_27 (hC 0 _ rfl) rfl ?_
  refine B_sg (show _ = (zput sg o (sPp (sFe (sBr (sPr (sAa (sKd c (cKd (ct sg o2))) (cAa (ct sg o2))) (cPr (ct sg o2))) (cBr (ct sg o2))) (cFe (ct sg o2))) (cPp (ct sg o2)))) from zw_5 _ _ _ _) ?_
  refine A_aload_n dX2_load_83 rfl rfl ?_
  refine A_aload_n dX2_load_84 rfl rfl ?_
  refine B_getV (cAir (ct sg o2)) dX2_load_85 flX2_31 (hC2 0 _ rfl) rfl (congrFun (zput_ne (by omega)) 6) ?_
  refine B_putI dX2_load_88 fwX2_31 (hC 0 _ rfl) rfl ?_
  refine B_sg (show _ = (zput sg o (sAir (sPp (sFe (sBr (sPr (sAa (sKd c (cKd (ct sg o2))) (cAa (ct sg o2))) (cPr (ct sg o2))) (cBr (ct sg o2))) (cFe (ct sg o2))) (cPp (ct sg o2))) (cAir (ct sg o2)))) from zw_6 _ _ _ _) ?_
  refine A_aload_n dX2_load_91 rfl rfl ?_
  refine A_aload_n dX2_load_92 rfl rfl ?_
  refine B_getV (cFall (ct sg o2)) dX2_load_93 flX2_34 (hC2 0 _ rfl) rfl (congrFun (zput_ne (by omega)) 7) ?_
  refine B_putI dX2_load_96 fwX2_34 (hC 0 _ rfl) rfl ?_
  refine B_sg (show _ = (zput sg o (sFall (sAir (sPp (sFe (sBr (sPr (sAa (sKd c (cKd (ct sg o2))) (cAa (ct sg o2))) (cPr (ct sg o2))) (cBr (ct sg o2))) (cFe (ct sg o2))) (cPp (ct sg o2))) (cAir (ct sg o2))) (cFall (ct sg o2)))) from zw_7 _ _ _ _) ?_
  refine A_aload_n dX2_load_99 rfl rfl ?_
  refine A_aload_n dX2_load_100 rfl rfl ?_
  refine B_getV (cDay (ct sg o2)) dX2_load_101 flX2_37 (hC2 0 _ rfl) rfl (congrFun (zput_ne (by omega)) 8) ?_
  refine B_putI dX2_load_104 fwX2_37 (hC 0 _ rfl) rfl ?_
  refine B_sg (show _ = (zput sg o (sDay (sFall (sAir (sPp (sFe (sBr (sPr (sAa (sKd c (cKd (ct sg o2))) (cAa (ct sg o2))) (cPr (ct sg o2))) (cBr (ct sg o2))) (cFe (ct sg o2))) (cPp (ct sg o2))) (cAir (ct sg o2))) (cFall (ct sg o2))) (cDay (ct sg o2)))) from zw_8 _ _ _ _) ?_
  refine A_aload_n dX2_load_107 rfl rfl ?_
  refine A_aload_n dX2_load_108 rfl rfl ?_
  refine B_getV (cWin (ct sg o2)) dX2_load_109 flX2_40 (hC2 0 _ rfl) rfl (congrFun (zput_ne (by omega)) 9) ?_
  refine B_putI dX2_load_112 fwX2_40 (hC 0 _ rfl) rfl ?_
  refine B_sg (show _ = (zput sg o (sWin (sDay (sFall (sAir (sPp (sFe (sBr (sPr (sAa (sKd c (cKd (ct sg o2))) (cAa (ct sg o2))) (cPr (ct sg o2))) (cBr (ct sg o2))) (cFe (ct sg o2))) (cPp (ct sg o2))) (cAir (ct sg o2))) (cFall (ct sg o2))) (cDay (ct sg o2))) (cWin (ct sg o2)))) from zw_9 _ _ _ _) ?_
  refine A_aload_n dX2_load_115 rfl rfl ?_
  refine A_aload_n dX2_load_116 rfl rfl ?_
  refine B_getV (cCoal (ct sg o2)) dX2_load_117 flX2_43 (hC2 0 _ rfl) rfl (congrFun (zput_ne (by omega)) 10) ?_
  refine B_putI dX2_load_120 fwX2_43 (hC 0 _ rfl) rfl ?_
  refine B_sg (show _ = (zput sg o (sCoal (sWin (sDay (sFall (sAir (sPp (sFe (sBr (sPr (sAa (sKd c (cKd (ct sg o2))) (cAa (ct sg o2))) (cPr (ct sg o2))) (cBr (ct sg o2))) (cFe (ct sg o2))) (cPp (ct sg o2))) (cAir (ct sg o2))) (cFall (ct sg o2))) (cDay (ct sg o2))) (cWin (ct sg o2))) (cCoal (ct sg o2)))) from zw_10 _ _ _ _) ?_
  refine A_aload_n dX2_load_123 rfl rfl ?_
  refine A_aload_n dX2_load_124 rfl rfl ?_
  refine B_getV (cSeed (ct sg o2)) dX2_load_125 flX2_46 (hC2 0 _ rfl) rfl (congrFun (zput_ne (by omega)) 11) ?_
  refine B_putI dX2_load_128 fwX2_46 (hC 0 _ rfl) rfl ?_
  refine B_sg (show _ = (zput sg o (sSeed (sCoal (sWin (sDay (sFall (sAir (sPp (sFe (sBr (sPr (sAa (sKd c (cKd (ct sg o2))) (cAa (ct sg o2))) (cPr (ct sg o2))) (cBr (ct sg o2))) (cFe (ct sg o2))) (cPp (ct sg o2))) (cAir (ct sg o2))) (cFall (ct sg o2))) (cDay (ct sg o2))) (cWin (ct sg o2))) (cCoal (ct sg o2))) (cSeed (ct sg o2)))) from zw_11 _ _ _ _) ?_
  refine A_aload_n dX2_load_131 rfl rfl ?_
  refine A_aload_n dX2_load_132 rfl rfl ?_
  refine B_getV (cLov (ct sg o2)) dX2_load_133 flX2_49 (hC2 0 _ rfl) rfl (congrFun (zput_ne (by omega)) 12) ?_
  refine B_putI dX2_load_136 fwX2_49 (hC 0 _ rfl) rfl ?_
  refine B_sg (show _ = (zput sg o (sLov (sSeed (sCoal (sWin (sDay (sFall (sAir (sPp (sFe (sBr (sPr (sAa (sKd c (cKd (ct sg o2))) (cAa (ct sg o2))) (cPr (ct sg o2))) (cBr (ct sg o2))) (cFe (ct sg o2))) (cPp (ct sg o2))) (cAir (ct sg o2))) (cFall (ct sg o2))) (cDay (ct sg o2))) (cWin (ct sg o2))) (cCoal (ct sg o2))) (cSeed (ct sg o2))) (cLov (ct sg o2)))) from zw_12 _ _ _ _) ?_
  refine A_aload_n dX2_load_139 rfl rfl ?_
  refine A_aload_n dX2_load_140 rfl rfl ?_
  refine B_getV (cAway (ct sg o2)) dX2_load_141 flX2_52 (hC2 0 _ rfl) rfl (congrFun (zput_ne (by omega)) 13) ?_
  refine B_putI dX2_load_144 fwX2_52 (hC 0 _ rfl) rfl ?_
  refine B_sg (show _ = (zput sg o (sAway (sLov (sSeed (sCoal (sWin (sDay (sFall (sAir (sPp (sFe (sBr (sPr (sAa (sKd c (cKd (ct sg o2))) (cAa (ct sg o2))) (cPr (ct sg o2))) (cBr (ct sg o2))) (cFe (ct sg o2))) (cPp (ct sg o2))) (cAir (ct sg o2))) (cFall (ct sg o2))) (cDay (ct sg o2))) (cWin (ct sg o2))) (cCoal (ct sg o2))) (cSeed (ct sg o2))) (cLov (ct sg o2))) (cAway (ct sg o2)))) from zw_13 _ _ _ _) ?_
  exact A_vret dX2_load_147 rfl (az_pv hP (rfl))
