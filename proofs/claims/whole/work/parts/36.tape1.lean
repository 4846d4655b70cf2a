set_option maxHeartbeats 600000 in
set_option maxRecDepth 100000 in
theorem c_X5_isFull (l : Launch) (G : az_Gh) (d : Nat) (sh : List az_Sh) (sg : Nat → Nat → Int32) (la : Nat → Nat → Int64) (o : Nat) (hT : az_at sh o (lyP o)) : FM l G (d) mX5_isFull [.ref o] (sh, sg, la) (some (.int (b2i (250 ≤ sg o 1)))) (sh, sg, la) := by
  refine az_fm knX5_isFull (Nat.le_of_ble_eq_true rfl) rfl (fun Post hP => ?_)
  show AW l G mX5_isFull (d) (az_F G Post) 0 0 0 [some (.ref o)] [] (sh, sg, la)
  refine A_aload_n dX5_isFull_0 rfl rfl ?_
  refine B_getI dX5_isFull_1 flX5_15 (hT 0 _ rfl) rfl ?_
  refine A_sipush (v := 250) dX5_isFull_4 (by decide) ?_
  refine A_icmp_lt (tgt := 14) dX5_isFull_7 rfl (fun h_1 => ?_) (fun h_1 => ?_)
  · skip
    refine A_iconst (v := 0) dX5_isFull_14 (by decide) ?_
    refine A_zret dX5_isFull_15 rfl (rfl) (az_pi hP ?_ (rfl))
    exact b2i_f (fun q => absurd h_1 (Int32.not_lt.mpr q))
  · skip
    refine A_iconst (v := 1) dX5_isFull_10 (by decide) ?_
    refine A_goto (tgt := 15) dX5_isFull_11 rfl ?_
    refine A_zret dX5_isFull_15 rfl (rfl) (az_pi hP ?_ (rfl))
    exact b2i_t (Int32.not_lt.mp h_1)
set_option maxHeartbeats 600000 in
set_option maxRecDepth 100000 in
theorem c_X5_append (l : Launch) (G : az_Gh) (d : Nat) (sh : List az_Sh) (sg : Nat → Nat → Int32) (la : Nat → Nat → Int64) (o m : Nat) (x : Int32) (hT : az_at sh o (lyP o)) (hm : sg o 1 = nI m) (hm2 : m < 250) : FM l G (d + 1) mX5_append [.ref o, .int x] (sh, sg, la) (some (.int (nI (m + 1)))) (sh, az_w (az_w sg o 1 (nI (m + 1))) (o + 1) m x, la) := by
  refine az_fm knX5_append (Nat.le_of_ble_eq_true rfl) rfl (fun Post hP => ?_)
  show AW l G mX5_append (d + 1) (az_F G Post) 0 0 0 [some (.ref o), some (.int x)] [] (sh, sg, la)
  refine A_aload_n dX5_append_0 rfl rfl ?_
  refine A_callV (n := 0) dX5_append_1 kvX5_isFull mlX5_28 rfl (az_rc_obj clX5 (hT 0 _ rfl)) (c_X5_isFull l G d sh sg la o hT) (by omega) (Nat.le_refl _) (Nat.le_refl _) rfl (Nat.le_of_ble_eq_true rfl) (fun r S1 hp => ?_)
  obtain ⟨rfl, rfl⟩ := hp
  show AW l G mX5_append (d + 1) (az_F G Post) 0 0 4 [some (.ref o), some (.int x)] [.int (b2i (250 ≤ sg o 1))] (sh, sg, la)
  refine A_if_ne (tgt := 24) dX5_append_4 rfl (fun h_1 => ?_) (fun h_1 => ?_)
  · skip
    have h_1' := b2i_n.mp h_1
    exact absurd (b2i_n.mp h_1) (by rw [hm]; exact nI_ge (b := 250) hm2 (by decide))
  · skip
    have h_1' := b2i_0.mp h_1
    refine A_aload_n dX5_append_7 rfl rfl ?_
    refine B_getR (r := (o + 1)) dX5_append_8 flX5_9 (hT 0 _ rfl) rfl ?_
    refine A_aload_n dX5_append_11 rfl rfl ?_
    refine A_dup dX5_append_12 rfl ?_
    refine B_getV (nI m) dX5_append_13 flX5_15 (hT 0 _ rfl) rfl (hm) ?_
    refine A_dup_x1 dX5_append_16 rfl rfl ?_
    refine A_iconst (v := 1) dX5_append_17 (by decide) ?_
    refine A_iadd dX5_append_18 ?_
    refine B_top (nI_1 m) ?_
    refine B_putI dX5_append_19 fwX5_15 (hT 0 _ rfl) rfl ?_
    refine A_iload_n dX5_append_22 rfl rfl ?_
    refine B_iast (i := m) dX5_append_23 (hT 1 _ rfl) (by decide) (rfl) (by omega) ?_
    refine A_aload_n dX5_append_24 rfl rfl ?_
    refine B_getV (nI (m + 1)) dX5_append_25 flX5_15 (hT 0 _ rfl) rfl ((congrFun (az_w_ne (by omega)) 1).trans (az_w_at _ _ _ _)) ?_
    refine A_iret dX5_append_28 rfl (az_pi hP ?_ (rfl))
    rfl
set_option maxHeartbeats 600000 in
set_option maxRecDepth 100000 in
theorem c_X5_clear (l : Launch) (G : az_Gh) (d : Nat) (sh : List az_Sh) (sg : Nat → Nat → Int32) (la : Nat → Nat → Int64) (o : Nat) (hT : az_at sh o (lyP o)) : FM l G (d) mX5_clear [.ref o] (sh, sg, la) (some (.int (sg o 1))) (sh, az_w sg o 1 0, la) := by
  refine az_fm knX5_clear (Nat.le_of_ble_eq_true rfl) rfl (fun Post hP => ?_)
  show AW l G mX5_clear (d) (az_F G Post) 0 0 0 [some (.ref o), none] [] (sh, sg, la)
  refine A_aload_n dX5_clear_0 rfl rfl ?_
  refine B_getI dX5_clear_1 flX5_15 (hT 0 _ rfl) rfl ?_
  refine A_istore_n (lo2 := [some (.ref o), some (.int (sg o 1))]) dX5_clear_4 rfl (by decide) rfl ?_
  refine A_aload_n dX5_clear_5 rfl rfl ?_
  refine A_iconst (v := 0) dX5_clear_6 (by decide) ?_
  refine B_putI dX5_clear_7 fwX5_15 (hT 0 _ rfl) rfl ?_
  refine A_iload_n dX5_clear_10 rfl rfl ?_
  refine A_iret dX5_clear_11 rfl (az_pi hP ?_ (rfl))
  rfl
set_option maxHeartbeats 600000 in
set_option maxRecDepth 100000 in
theorem c_X5_takesAllOf (l : Launch) (G : az_Gh) (d : Nat) (sh : List az_Sh) (sg : Nat → Nat → Int32) (la : Nat → Nat → Int64) (o m e : Nat) (t s lo hi : Int32) (hT : az_at sh o (lyP o)) (hm : sg o 1 = nI m) (hm2 : m ≤ 250) (he : e ≤ m) : FM l G (d) mX5_takesAllOf [.ref o, .int lo, .int hi] (sh, (zTp sg o t s (nI e)), la) (some (.int (b2i (s < nI (zrun (zcr (sg (o + 1)) lo hi) m e))))) (sh, zTp sg o t s (nI (zrun (zcr (sg (o + 1)) lo hi) m e)), la) := by
  refine az_fm knX5_takesAllOf (Nat.le_of_ble_eq_true rfl) rfl (fun Post hP => ?_)
  show AW l G mX5_takesAllOf (d) (az_F G Post) 0 0 0 [some (.ref o), some (.int lo), some (.int hi)] [] (sh, (zTp sg o t s (nI e)), la)
  obtain ⟨hge, hle, hin, hend⟩ := zrun_facts (zcr (sg (o + 1)) lo hi) he
  generalize zrun (zcr (sg (o + 1)) lo hi) m e = E at *
  have loop : ∀ (q_i9 i9 : Nat), i9 + q_i9 = E → e ≤ i9 → AW l G mX5_takesAllOf (d) (az_F G Post) 0 0 0 [some (.ref o), some (.int lo), some (.int hi)] [] (sh, (zTp sg o t s (nI i9)), la) := by
    intro q_i9
    induction q_i9 with
    | zero =>
      intro i9  hi_i9 hei 
      have hN_i9 : i9 = E := by omega
      subst i9
      refine A_aload_n dX5_takesAllOf_0 rfl rfl ?_
      refine B_getV (nI E) dX5_takesAllOf_1 flX5_25 (hT 0 _ rfl) rfl (zTp_4 _ _ _ _ _) ?_
      refine A_aload_n dX5_takesAllOf_4 rfl rfl ?_
      refine B_getV (nI m) dX5_takesAllOf_5 flX5_15 (hT 0 _ rfl) rfl ((zTp_1 _ _ _ _ _).trans hm) ?_
      refine A_icmp_ge (tgt := 50) dX5_takesAllOf_8 rfl (fun h_1 => ?_) (fun h_1 => ?_)
      · skip
        refine A_aload_n dX5_takesAllOf_50 rfl rfl ?_
        refine B_getV (nI E) dX5_takesAllOf_51 flX5_25 (hT 0 _ rfl) rfl (zTp_4 _ _ _ _ _) ?_
        refine A_aload_n dX5_takesAllOf_54 rfl rfl ?_
        refine B_getV (s) dX5_takesAllOf_55 flX5_22 (hT 0 _ rfl) rfl (zTp_3 _ _ _ _ _) ?_
        refine A_icmp_le (tgt := 65) dX5_takesAllOf_58 rfl (fun h_2 => ?_) (fun h_2 => ?_)
        · skip
          refine A_iconst (v := 0) dX5_takesAllOf_65 (by decide) ?_
          refine A_zret dX5_takesAllOf_66 rfl (rfl) (az_pi hP ?_ (rfl))
          exact b2i_f (Int32.not_lt.mpr h_2)
        · skip
          refine A_iconst (v := 1) dX5_takesAllOf_61 (by decide) ?_
          refine A_goto (tgt := 66) dX5_takesAllOf_62 rfl ?_
          refine A_zret dX5_takesAllOf_66 rfl (rfl) (az_pi hP ?_ (rfl))
          exact b2i_t (Int32.not_le.mp h_2)
      · skip
        have hlt9 : E < m := Nat.lt_of_not_le (fun q => h_1 (nI_le q (by omega)))
        refine A_aload_n dX5_takesAllOf_11 rfl rfl ?_
        refine B_getR (r := (o + 1)) dX5_takesAllOf_12 flX5_9 (hT 0 _ rfl) rfl ?_
        refine A_aload_n dX5_takesAllOf_15 rfl rfl ?_
        refine B_getV (nI E) dX5_takesAllOf_16 flX5_25 (hT 0 _ rfl) rfl (zTp_4 _ _ _ _ _) ?_
        refine B_ialdV (i := E) (sg (o + 1) E) dX5_takesAllOf_19 (hT 1 _ rfl) (by decide) (rfl) (by omega) (congrFun (zTp_ne (by omega)) _) ?_
        refine A_iload_n dX5_takesAllOf_20 rfl rfl ?_
        refine A_icmp_lt (tgt := 50) dX5_takesAllOf_21 rfl (fun h_3 => ?_) (fun h_3 => ?_)
        · skip
          refine A_aload_n dX5_takesAllOf_50 rfl rfl ?_
          refine B_getV (nI E) dX5_takesAllOf_51 flX5_25 (hT 0 _ rfl) rfl (zTp_4 _ _ _ _ _) ?_
          refine A_aload_n dX5_takesAllOf_54 rfl rfl ?_
          refine B_getV (s) dX5_takesAllOf_55 flX5_22 (hT 0 _ rfl) rfl (zTp_3 _ _ _ _ _) ?_
          refine A_icmp_le (tgt := 65) dX5_takesAllOf_58 rfl (fun h_4 => ?_) (fun h_4 => ?_)
          · skip
            refine A_iconst (v := 0) dX5_takesAllOf_65 (by decide) ?_
            refine A_zret dX5_takesAllOf_66 rfl (rfl) (az_pi hP ?_ (rfl))
            exact b2i_f (Int32.not_lt.mpr h_4)
          · skip
            refine A_iconst (v := 1) dX5_takesAllOf_61 (by decide) ?_
            refine A_goto (tgt := 66) dX5_takesAllOf_62 rfl ?_
            refine A_zret dX5_takesAllOf_66 rfl (rfl) (az_pi hP ?_ (rfl))
            exact b2i_t (Int32.not_le.mp h_4)
        · skip
          refine A_aload_n dX5_takesAllOf_24 rfl rfl ?_
          refine B_getR (r := (o + 1)) dX5_takesAllOf_25 flX5_9 (hT 0 _ rfl) rfl ?_
          refine A_aload_n dX5_takesAllOf_28 rfl rfl ?_
          refine B_getV (nI E) dX5_takesAllOf_29 flX5_25 (hT 0 _ rfl) rfl (zTp_4 _ _ _ _ _) ?_
          refine B_ialdV (i := E) (sg (o + 1) E) dX5_takesAllOf_32 (hT 1 _ rfl) (by decide) (rfl) (by omega) (congrFun (zTp_ne (by omega)) _) ?_
          refine A_iload_n dX5_takesAllOf_33 rfl rfl ?_
          refine A_icmp_gt (tgt := 50) dX5_takesAllOf_34 rfl (fun h_5 => ?_) (fun h_5 => ?_)
          · skip
            refine A_aload_n dX5_takesAllOf_50 rfl rfl ?_
            refine B_getV (nI E) dX5_takesAllOf_51 flX5_25 (hT 0 _ rfl) rfl (zTp_4 _ _ _ _ _) ?_
            refine A_aload_n dX5_takesAllOf_54 rfl rfl ?_
            refine B_getV (s) dX5_takesAllOf_55 flX5_22 (hT 0 _ rfl) rfl (zTp_3 _ _ _ _ _) ?_
            refine A_icmp_le (tgt := 65) dX5_takesAllOf_58 rfl (fun h_6 => ?_) (fun h_6 => ?_)
            · skip
              refine A_iconst (v := 0) dX5_takesAllOf_65 (by decide) ?_
              refine A_zret dX5_takesAllOf_66 rfl (rfl) (az_pi hP ?_ (rfl))
              exact b2i_f (Int32.not_lt.mpr h_6)
            · skip
              refine A_iconst (v := 1) dX5_takesAllOf_61 (by decide) ?_
              refine A_goto (tgt := 66) dX5_takesAllOf_62 rfl ?_
              refine A_zret dX5_takesAllOf_66 rfl (rfl) (az_pi hP ?_ (rfl))
              exact b2i_t (Int32.not_le.mp h_6)
          · skip
            exact absurd (zcr_t (Int32.not_lt.mp h_3) (Int32.not_lt.mp h_5)) (by rw [hend (Nat.lt_of_not_le (fun q => h_1 (nI_le q (by omega))))]; intro q; cases q)
    | succ q_i9 ih =>
      intro i9  hi_i9 hei 
      refine A_aload_n dX5_takesAllOf_0 rfl rfl ?_
      refine B_getV (nI i9) dX5_takesAllOf_1 flX5_25 (hT 0 _ rfl) rfl (zTp_4 _ _ _ _ _) ?_
      refine A_aload_n dX5_takesAllOf_4 rfl rfl ?_
      refine B_getV (nI m) dX5_takesAllOf_5 flX5_15 (hT 0 _ rfl) rfl ((zTp_1 _ _ _ _ _).trans hm) ?_
      refine A_icmp_ge (tgt := 50) dX5_takesAllOf_8 rfl (fun h_7 => ?_) (fun h_7 => ?_)
      · skip
        exact absurd h_7 (nI_ge (by omega) (by omega))
      · skip
        have hlt9 : i9 < m := Nat.lt_of_not_le (fun q => h_7 (nI_le q (by omega)))
        refine A_aload_n dX5_takesAllOf_11 rfl rfl ?_
        refine B_getR (r := (o + 1)) dX5_takesAllOf_12 flX5_9 (hT 0 _ rfl) rfl ?_
        refine A_aload_n dX5_takesAllOf_15 rfl rfl ?_
        refine B_getV (nI i9) dX5_takesAllOf_16 flX5_25 (hT 0 _ rfl) rfl (zTp_4 _ _ _ _ _) ?_
        refine B_ialdV (i := i9) (sg (o + 1) i9) dX5_takesAllOf_19 (hT 1 _ rfl) (by decide) (rfl) (by omega) (congrFun (zTp_ne (by omega)) _) ?_
        refine A_iload_n dX5_takesAllOf_20 rfl rfl ?_
        refine A_icmp_lt (tgt := 50) dX5_takesAllOf_21 rfl (fun h_8 => ?_) (fun h_8 => ?_)
        · skip
          exact absurd h_8 (Int32.not_lt.mpr (zcr_1 (hin i9 (by omega) (by omega))))
        · skip
          refine A_aload_n dX5_takesAllOf_24 rfl rfl ?_
          refine B_getR (r := (o + 1)) dX5_takesAllOf_25 flX5_9 (hT 0 _ rfl) rfl ?_
          refine A_aload_n dX5_takesAllOf_28 rfl rfl ?_
          refine B_getV (nI i9) dX5_takesAllOf_29 flX5_25 (hT 0 _ rfl) rfl (zTp_4 _ _ _ _ _) ?_
          refine B_ialdV (i := i9) (sg (o + 1) i9) dX5_takesAllOf_32 (hT 1 _ rfl) (by decide) (rfl) (by omega) (congrFun (zTp_ne (by omega)) _) ?_
          refine A_iload_n dX5_takesAllOf_33 rfl rfl ?_
          refine A_icmp_gt (tgt := 50) dX5_takesAllOf_34 rfl (fun h_9 => ?_) (fun h_9 => ?_)
          · skip
            exact absurd h_9 (Int32.not_lt.mpr (zcr_2 (hin i9 (by omega) (by omega))))
          · skip
            refine A_aload_n dX5_takesAllOf_37 rfl rfl ?_
            refine A_dup dX5_takesAllOf_38 rfl ?_
            refine B_getV (nI i9) dX5_takesAllOf_39 flX5_25 (hT 0 _ rfl) rfl (zTp_4 _ _ _ _ _) ?_
            refine A_iconst (v := 1) dX5_takesAllOf_42 (by decide) ?_
            refine A_iadd dX5_takesAllOf_43 ?_
            refine B_top (nI_1 i9) ?_
            refine B_putI dX5_takesAllOf_44 fwX5_25 (hT 0 _ rfl) rfl ?_
            refine B_sg (show _ = (zTp sg o t s (nI (i9 + 1))) from zTp_w4) ?_
            refine A_goto (tgt := 0) dX5_takesAllOf_47 rfl ?_
            refine ih (i9 + 1) (by omega) (by omega)
  exact loop ((E) - (e)) e (by omega) (Nat.le_refl _)
set_option maxHeartbeats 600000 in
set_option maxRecDepth 100000 in
theorem c_X5_step (l : Launch) (G : az_Gh) (d : Nat) (sh : List az_Sh) (sg : Nat → Nat → Int32) (la : Nat → Nat → Int64) (o m e : Nat) (t s : Int32) (hT : az_at sh o (lyP o)) (hm : sg o 1 = nI m) (hm2 : m ≤ 250) (he : e ≤ m) : FM l G (d + 1) mX5_step [.ref o] (sh, (zTp sg o t s (nI e)), la) (none) (sh, zTp sg o (zst3 (sg (o + 1)) m e).1 (nI (zss (sg (o + 1)) m e)) (nI (zst3 (sg (o + 1)) m e).2), la) := by
  refine az_fm knX5_step (Nat.le_of_ble_eq_true rfl) rfl (fun Post hP => ?_)
  show AW l G mX5_step (d + 1) (az_F G Post) 0 0 0 [some (.ref o)] [] (sh, (zTp sg o t s (nI e)), la)
  obtain ⟨hge, hle, hin, hend⟩ := zrun_facts (zspc (sg (o + 1))) he
  obtain ⟨E, hE⟩ : ∃ E, zss (sg (o + 1)) m e = E := ⟨_, rfl⟩
  change zss (sg (o + 1)) m e ≤ m at hle
  change e ≤ zss (sg (o + 1)) m e at hge
  change ∀ k, e ≤ k → k < zss (sg (o + 1)) m e → _ at hin
  change zss (sg (o + 1)) m e < m → zspc (sg (o + 1)) (zss (sg (o + 1)) m e) = false at hend
  rw [hE] at hge hle hin hend
  have loop : ∀ (q_i9 i9 : Nat), i9 + q_i9 = E → e ≤ i9 → AW l G mX5_step (d + 1) (az_F G Post) 0 0 0 [some (.ref o)] [] (sh, (zTp sg o t s (nI i9)), la) := by
    intro q_i9
    induction q_i9 with
    | zero =>
      intro i9  hi_i9 hei 
      have hN_i9 : i9 = E := by omega
      subst i9
      refine A_aload_n dX5_step_0 rfl rfl ?_
      refine B_getV (nI E) dX5_step_1 flX5_25 (hT 0 _ rfl) rfl (zTp_4 _ _ _ _ _) ?_
      refine A_aload_n dX5_step_4 rfl rfl ?_
      refine B_getV (nI m) dX5_step_5 flX5_15 (hT 0 _ rfl) rfl ((zTp_1 _ _ _ _ _).trans hm) ?_
      refine A_icmp_ge (tgt := 38) dX5_step_8 rfl (fun h_1 => ?_) (fun h_1 => ?_)
      · skip
        refine A_aload_n dX5_step_38 rfl rfl ?_
        refine A_aload_n dX5_step_39 rfl rfl ?_
        refine B_getV (nI E) dX5_step_40 flX5_25 (hT 0 _ rfl) rfl (zTp_4 _ _ _ _ _) ?_
        refine B_putI dX5_step_43 fwX5_22 (hT 0 _ rfl) rfl ?_
        refine B_sg (show _ = (zTp sg o t (nI E) (nI E)) from zTp_w3) ?_
        refine A_aload_n dX5_step_46 rfl rfl ?_
        refine B_getV (nI E) dX5_step_47 flX5_22 (hT 0 _ rfl) rfl (zTp_3 _ _ _ _ _) ?_
        refine A_aload_n dX5_step_50 rfl rfl ?_
        refine B_getV (nI m) dX5_step_51 flX5_15 (hT 0 _ rfl) rfl ((zTp_1 _ _ _ _ _).trans hm) ?_
        refine A_icmp_lt (tgt := 65) dX5_step_54 rfl (fun h_2 => ?_) (fun h_2 => ?_)
        · skip
          have hlt : ¬ m ≤ E := fun q => absurd h_2 (nI_nlt q (by omega))
          refine A_aload_n dX5_step_65 rfl rfl ?_
          refine A_bipush (v := 97) dX5_step_66 (by decide) ?_
          refine A_bipush (v := 122) dX5_step_68 (by decide) ?_
          have hfL := zrun_facts (zcr (sg (o + 1)) 97 122) hle
          refine A_callV (n := 0) dX5_step_70 kvX5_takesAllOf mlX5_39 rfl (az_rc_obj clX5 (hT 0 _ rfl)) (c_X5_takesAllOf l G d sh sg la o m E t (nI E) 97 122 hT hm hm2 hle) (by omega) (Nat.le_refl _) (Nat.le_refl _) rfl (Nat.le_of_ble_eq_true rfl) (fun r S1 hp => ?_)
          obtain ⟨rfl, rfl⟩ := hp
          show AW l G mX5_step (d + 1) (az_F G Post) 0 0 73 [some (.ref o)] [.int (b2i (nI E < nI (zrun (zcr (sg (o + 1)) 97 122) m E)))] (sh, (zTp sg o t (nI E) (nI (zrun (zcr (sg (o + 1)) 97 122) m E))), la)
          refine A_if_eq (tgt := 84) dX5_step_73 rfl (fun h_3 => ?_) (fun h_3 => ?_)
          · skip
            have h_3' := b2i_0.mp h_3
            have hnL : ¬ E < zrun (zcr (sg (o + 1)) 97 122) m E := fun q => b2i_0.mp h_3 (nI_lt q (by omega))
            refine B_sg (show _ = (zTp sg o t (nI E) (nI E)) from by rw [show zrun (zcr (sg (o + 1)) 97 122) m E = E by omega]) ?_
            refine A_aload_n dX5_step_84 rfl rfl ?_
            refine A_bipush (v := 48) dX5_step_85 (by decide) ?_
            refine A_bipush (v := 57) dX5_step_87 (by decide) ?_
            have hfD := zrun_facts (zcr (sg (o + 1)) 48 57) hle
            refine A_callV (n := 0) dX5_step_89 kvX5_takesAllOf mlX5_39 rfl (az_rc_obj clX5 (hT 0 _ rfl)) (c_X5_takesAllOf l G d sh sg la o m E t (nI E) 48 57 hT hm hm2 hle) (by omega) (Nat.le_refl _) (Nat.le_refl _) rfl (Nat.le_of_ble_eq_true rfl) (fun r S1 hp => ?_)
            obtain ⟨rfl, rfl⟩ := hp
            show AW l G mX5_step (d + 1) (az_F G Post) 0 0 92 [some (.ref o)] [.int (b2i (nI E < nI (zrun (zcr (sg (o + 1)) 48 57) m E)))] (sh, (zTp sg o t (nI E) (nI (zrun (zcr (sg (o + 1)) 48 57) m E))), la)
            refine A_if_eq (tgt := 103) dX5_step_92 rfl (fun h_4 => ?_) (fun h_4 => ?_)
            · skip
              have h_4' := b2i_0.mp h_4
              have hnD : ¬ E < zrun (zcr (sg (o + 1)) 48 57) m E := fun q => b2i_0.mp h_4 (nI_lt q (by omega))
              refine B_sg (show _ = (zTp sg o t (nI E) (nI E)) from by rw [show zrun (zcr (sg (o + 1)) 48 57) m E = E by omega]) ?_
              refine A_aload_n dX5_step_103 rfl rfl ?_
              refine A_aload_n dX5_step_104 rfl rfl ?_
              refine B_getR (r := (o + 1)) dX5_step_105 flX5_9 (hT 0 _ rfl) rfl ?_
              refine A_aload_n dX5_step_108 rfl rfl ?_
              refine B_getV (nI E) dX5_step_109 flX5_22 (hT 0 _ rfl) rfl (zTp_3 _ _ _ _ _) ?_
              refine B_ialdV (i := E) (sg (o + 1) E) dX5_step_112 (hT 1 _ rfl) (by decide) (rfl) (by omega) (congrFun (zTp_ne (by omega)) _) ?_
              refine A_bipush (v := 59) dX5_step_113 (by decide) ?_
              refine A_icmp_ne (tgt := 122) dX5_step_115 rfl (fun h_5 => ?_) (fun h_5 => ?_)
              · skip
                refine A_iconst (v := 4) dX5_step_122 (by decide) ?_
                refine B_putI dX5_step_123 fwX5_19 (hT 0 _ rfl) rfl ?_
                refine B_sg (show _ = (zTp sg o (if sg (o + 1) E = 59 then 3 else 4) (nI E) (nI E)) from zTp_w2.trans (congrArg (fun z => zTp sg o z (nI E) (nI E)) (if_neg h_5).symm)) ?_
                refine A_aload_n dX5_step_126 rfl rfl ?_
                refine A_dup dX5_step_127 rfl ?_
                refine B_getV (nI E) dX5_step_128 flX5_25 (hT 0 _ rfl) rfl (zTp_4 _ _ _ _ _) ?_
                refine A_iconst (v := 1) dX5_step_131 (by decide) ?_
                refine A_iadd dX5_step_132 ?_
                refine B_top (nI_1 E) ?_
                refine B_putI dX5_step_133 fwX5_25 (hT 0 _ rfl) rfl ?_
                refine B_sg (show _ = (zTp sg o (if sg (o + 1) E = 59 then 3 else 4) (nI E) (nI (E + 1))) from zTp_w4) ?_
                exact A_vret dX5_step_136 rfl (az_pv hP (by rw [zst3_3 (by rw [hE]; exact hlt) (by unfold zsl; rw [hE]; exact hnL) (by unfold zsd; rw [hE]; exact hnD), hE]))
              · skip
                refine A_iconst (v := 3) dX5_step_118 (by decide) ?_
                refine A_goto (tgt := 123) dX5_step_119 rfl ?_
                refine B_putI dX5_step_123 fwX5_19 (hT 0 _ rfl) rfl ?_
                refine B_sg (show _ = (zTp sg o (if sg (o + 1) E = 59 then 3 else 4) (nI E) (nI E)) from zTp_w2.trans (congrArg (fun z => zTp sg o z (nI E) (nI E)) (if_pos h_5).symm)) ?_
                refine A_aload_n dX5_step_126 rfl rfl ?_
                refine A_dup dX5_step_127 rfl ?_
                refine B_getV (nI E) dX5_step_128 flX5_25 (hT 0 _ rfl) rfl (zTp_4 _ _ _ _ _) ?_
                refine A_iconst (v := 1) dX5_step_131 (by decide) ?_
                refine A_iadd dX5_step_132 ?_
                refine B_top (nI_1 E) ?_
                refine B_putI dX5_step_133 fwX5_25 (hT 0 _ rfl) rfl ?_
                refine B_sg (show _ = (zTp sg o (if sg (o + 1) E = 59 then 3 else 4) (nI E) (nI (E + 1))) from zTp_w4) ?_
                exact A_vret dX5_step_136 rfl (az_pv hP (by rw [zst3_3 (by rw [hE]; exact hlt) (by unfold zsl; rw [hE]; exact hnL) (by unfold zsd; rw [hE]; exact hnD), hE]))
            · skip
              have h_4' := b2i_n.mp h_4
              refine A_aload_n dX5_step_95 rfl rfl ?_
              refine A_iconst (v := 2) dX5_step_96 (by decide) ?_
              refine B_putI dX5_step_97 fwX5_19 (hT 0 _ rfl) rfl ?_
              refine B_sg (show _ = (zTp sg o 2 (nI E) (nI (zrun (zcr (sg (o + 1)) 48 57) m E))) from zTp_w2) ?_
              refine A_goto (tgt := 136) dX5_step_100 rfl ?_
              exact A_vret dX5_step_136 rfl (az_pv hP (by rw [zst3_2 (by rw [hE]; exact hlt) (by unfold zsl; rw [hE]; exact hnL) (by unfold zsd; rw [hE]; exact ((nI_ltI (by omega) (by omega)).mp (b2i_n.mp h_4)))]; unfold zsd; rw [hE]))
          · skip
            have h_3' := b2i_n.mp h_3
            refine A_aload_n dX5_step_76 rfl rfl ?_
            refine A_iconst (v := 1) dX5_step_77 (by decide) ?_
            refine B_putI dX5_step_78 fwX5_19 (hT 0 _ rfl) rfl ?_
            refine B_sg (show _ = (zTp sg o 1 (nI E) (nI (zrun (zcr (sg (o + 1)) 97 122) m E))) from zTp_w2) ?_
            refine A_goto (tgt := 136) dX5_step_81 rfl ?_
            exact A_vret dX5_step_136 rfl (az_pv hP (by rw [zst3_1 (by rw [hE]; exact hlt) (by unfold zsl; rw [hE]; exact ((nI_ltI (by omega) (by omega)).mp (b2i_n.mp h_3)))]; unfold zsl; rw [hE]))
        · skip
          refine A_aload_n dX5_step_57 rfl rfl ?_
          refine A_iconst (v := 0) dX5_step_58 (by decide) ?_
          refine B_putI dX5_step_59 fwX5_19 (hT 0 _ rfl) rfl ?_
          refine B_sg (show _ = (zTp sg o 0 (nI E) (nI E)) from zTp_w2) ?_
          refine A_goto (tgt := 136) dX5_step_62 rfl ?_
          exact A_vret dX5_step_136 rfl (az_pv hP (by rw [zst3_0 (by rw [hE]; exact ((nI_leI (by omega) (by omega)).mp (Int32.not_lt.mp h_2))), hE]))
      · skip
        have hlt9 : E < m := Nat.lt_of_not_le (fun q => h_1 (nI_le q (by omega)))
        refine A_aload_n dX5_step_11 rfl rfl ?_
        refine B_getR (r := (o + 1)) dX5_step_12 flX5_9 (hT 0 _ rfl) rfl ?_
        refine A_aload_n dX5_step_15 rfl rfl ?_
        refine B_getV (nI E) dX5_step_16 flX5_25 (hT 0 _ rfl) rfl (zTp_4 _ _ _ _ _) ?_
        refine B_ialdV (i := E) (sg (o + 1) E) dX5_step_19 (hT 1 _ rfl) (by decide) (rfl) (by omega) (congrFun (zTp_ne (by omega)) _) ?_
        refine A_bipush (v := 32) dX5_step_20 (by decide) ?_
        refine A_icmp_ne (tgt := 38) dX5_step_22 rfl (fun h_6 => ?_) (fun h_6 => ?_)
        · skip
          refine A_aload_n dX5_step_38 rfl rfl ?_
          refine A_aload_n dX5_step_39 rfl rfl ?_
          refine B_getV (nI E) dX5_step_40 flX5_25 (hT 0 _ rfl) rfl (zTp_4 _ _ _ _ _) ?_
          refine B_putI dX5_step_43 fwX5_22 (hT 0 _ rfl) rfl ?_
          refine B_sg (show _ = (zTp sg o t (nI E) (nI E)) from zTp_w3) ?_
          refine A_aload_n dX5_step_46 rfl rfl ?_
          refine B_getV (nI E) dX5_step_47 flX5_22 (hT 0 _ rfl) rfl (zTp_3 _ _ _ _ _) ?_
          refine A_aload_n dX5_step_50 rfl rfl ?_
          refine B_getV (nI m) dX5_step_51 flX5_15 (hT 0 _ rfl) rfl ((zTp_1 _ _ _ _ _).trans hm) ?_
          refine A_icmp_lt (tgt := 65) dX5_step_54 rfl (fun h_7 => ?_) (fun h_7 => ?_)
          · skip
            have hlt : ¬ m ≤ E := fun q => absurd h_7 (nI_nlt q (by omega))
            refine A_aload_n dX5_step_65 rfl rfl ?_
            refine A_bipush (v := 97) dX5_step_66 (by decide) ?_
            refine A_bipush (v := 122) dX5_step_68 (by decide) ?_
            have hfL := zrun_facts (zcr (sg (o + 1)) 97 122) hle
            refine A_callV (n := 0) dX5_step_70 kvX5_takesAllOf mlX5_39 rfl (az_rc_obj clX5 (hT 0 _ rfl)) (c_X5_takesAllOf l G d sh sg la o m E t (nI E) 97 122 hT hm hm2 hle) (by omega) (Nat.le_refl _) (Nat.le_refl _) rfl (Nat.le_of_ble_eq_true rfl) (fun r S1 hp => ?_)
            obtain ⟨rfl, rfl⟩ := hp
            show AW l G mX5_step (d + 1) (az_F G Post) 0 0 73 [some (.ref o)] [.int (b2i (nI E < nI (zrun (zcr (sg (o + 1)) 97 122) m E)))] (sh, (zTp sg o t (nI E) (nI (zrun (zcr (sg (o + 1)) 97 122) m E))), la)
            refine A_if_eq (tgt := 84) dX5_step_73 rfl (fun h_8 => ?_) (fun h_8 => ?_)
            · skip
              have h_8' := b2i_0.mp h_8
              have hnL : ¬ E < zrun (zcr (sg (o + 1)) 97 122) m E := fun q => b2i_0.mp h_8 (nI_lt q (by omega))
              refine B_sg (show _ = (zTp sg o t (nI E) (nI E)) from by rw [show zrun (zcr (sg (o + 1)) 97 122) m E = E by omega]) ?_
              refine A_aload_n dX5_step_84 rfl rfl ?_
              refine A_bipush (v := 48) dX5_step_85 (by decide) ?_
              refine A_bipush (v := 57) dX5_step_87 (by decide) ?_
              have hfD := zrun_facts (zcr (sg (o + 1)) 48 57) hle
              refine A_callV (n := 0) dX5_step_89 kvX5_takesAllOf mlX5_39 rfl (az_rc_obj clX5 (hT 0 _ rfl)) (c_X5_takesAllOf l G d sh sg la o m E t (nI E) 48 57 hT hm hm2 hle) (by omega) (Nat.le_refl _) (Nat.le_refl _) rfl (Nat.le_of_ble_eq_true rfl) (fun r S1 hp => ?_)
              obtain ⟨rfl, rfl⟩ := hp
              show AW l G mX5_step (d + 1) (az_F G Post) 0 0 92 [some (.ref o)] [.int (b2i (nI E < nI (zrun (zcr (sg (o + 1)) 48 57) m E)))] (sh, (zTp sg o t (nI E) (nI (zrun (zcr (sg (o + 1)) 48 57) m E))), la)
              refine A_if_eq (tgt := 103) dX5_step_92 rfl (fun h_9 => ?_) (fun h_9 => ?_)
              · skip
                have h_9' := b2i_0.mp h_9
                have hnD : ¬ E < zrun (zcr (sg (o + 1)) 48 57) m E := fun q => b2i_0.mp h_9 (nI_lt q (by omega))
                refine B_sg (show _ = (zTp sg o t (nI E) (nI E)) from by rw [show zrun (zcr (sg (o + 1)) 48 57) m E = E by omega]) ?_
                refine A_aload_n dX5_step_103 rfl rfl ?_
                refine A_aload_n dX5_step_104 rfl rfl ?_
                refine B_getR (r := (o + 1)) dX5_step_105 flX5_9 (hT 0 _ rfl) rfl ?_
                refine A_aload_n dX5_step_108 rfl rfl ?_
                refine B_getV (nI E) dX5_step_109 flX5_22 (hT 0 _ rfl) rfl (zTp_3 _ _ _ _ _) ?_
                refine B_ialdV (i := E) (sg (o + 1) E) dX5_step_112 (hT 1 _ rfl) (by decide) (rfl) (by omega) (congrFun (zTp_ne (by omega)) _) ?_
                refine A_bipush (v := 59) dX5_step_113 (by decide) ?_
                refine A_icmp_ne (tgt := 122) dX5_step_115 rfl (fun h_10 => ?_) (fun h_10 => ?_)
                · skip
                  refine A_iconst (v := 4) dX5_step_122 (by decide) ?_
                  refine B_putI dX5_step_123 fwX5_19 (hT 0 _ rfl) rfl ?_
                  refine B_sg (show _ = (zTp sg o (if sg (o + 1) E = 59 then 3 else 4) (nI E) (nI E)) from zTp_w2.trans (congrArg (fun z => zTp sg o z (nI E) (nI E)) (if_neg h_10).symm)) ?_
                  refine A_aload_n dX5_step_126 rfl rfl ?_
                  refine A_dup dX5_step_127 rfl ?_
                  refine B_getV (nI E) dX5_step_128 flX5_25 (hT 0 _ rfl) rfl (zTp_4 _ _ _ _ _) ?_
                  refine A_iconst (v := 1) dX5_step_131 (by decide) ?_
                  refine A_iadd dX5_step_132 ?_
                  refine B_top (nI_1 E) ?_
                  refine B_putI dX5_step_133 fwX5_25 (hT 0 _ rfl) rfl ?_
                  refine B_sg (show _ = (zTp sg o (if sg (o + 1) E = 59 then 3 else 4) (nI E) (nI (E + 1))) from zTp_w4) ?_
                  exact A_vret dX5_step_136 rfl (az_pv hP (by rw [zst3_3 (by rw [hE]; exact hlt) (by unfold zsl; rw [hE]; exact hnL) (by unfold zsd; rw [hE]; exact hnD), hE]))
                · skip
                  refine A_iconst (v := 3) dX5_step_118 (by decide) ?_
                  refine A_goto (tgt := 123) dX5_step_119 rfl ?_
                  refine B_putI dX5_step_123 fwX5_19 (hT 0 _ rfl) rfl ?_
                  refine B_sg (show _ = (zTp sg o (if sg (o + 1) E = 59 then 3 else 4) (nI E) (nI E)) from zTp_w2.trans (congrArg (fun z => zTp sg o z (nI E) (nI E)) (if_pos h_10).symm)) ?_
                  refine A_aload_n dX5_step_126 rfl rfl ?_
                  refine A_dup dX5_step_127 rfl ?_
                  refine B_getV (nI E) dX5_step_128 flX5_25 (hT 0 _ rfl) rfl (zTp_4 _ _ _ _ _) ?_
                  refine A_iconst (v := 1) dX5_step_131 (by decide) ?_
                  refine A_iadd dX5_step_132 ?_
                  refine B_top (nI_1 E) ?_
                  refine B_putI dX5_step_133 fwX5_25 (hT 0 _ rfl) rfl ?_
                  refine B_sg (show _ = (zTp sg o (if sg (o + 1) E = 59 then 3 else 4) (nI E) (nI (E + 1))) from zTp_w4) ?_
                  exact A_vret dX5_step_136 rfl (az_pv hP (by rw [zst3_3 (by rw [hE]; exact hlt) (by unfold zsl; rw [hE]; exact hnL) (by unfold zsd; rw [hE]; exact hnD), hE]))
              · skip
                have h_9' := b2i_n.mp h_9
                refine A_aload_n dX5_step_95 rfl rfl ?_
                refine A_iconst (v := 2) dX5_step_96 (by decide) ?_
                refine B_putI dX5_step_97 fwX5_19 (hT 0 _ rfl) rfl ?_
                refine B_sg (show _ = (zTp sg o 2 (nI E) (nI (zrun (zcr (sg (o + 1)) 48 57) m E))) from zTp_w2) ?_
                refine A_goto (tgt := 136) dX5_step_100 rfl ?_
                exact A_vret dX5_step_136 rfl (az_pv hP (by rw [zst3_2 (by rw [hE]; exact hlt) (by unfold zsl; rw [hE]; exact hnL) (by unfold zsd; rw [hE]; exact ((nI_ltI (by omega) (by omega)).mp (b2i_n.mp h_9)))]; unfold zsd; rw [hE]))
            · skip
              have h_8' := b2i_n.mp h_8
              refine A_aload_n dX5_step_76 rfl rfl ?_
              refine A_iconst (v := 1) dX5_step_77 (by decide) ?_
              refine B_putI dX5_step_78 fwX5_19 (hT 0 _ rfl) rfl ?_
              refine B_sg (show _ = (zTp sg o 1 (nI E) (nI (zrun (zcr (sg (o + 1)) 97 122) m E))) from zTp_w2) ?_
              refine A_goto (tgt := 136) dX5_step_81 rfl ?_
              exact A_vret dX5_step_136 rfl (az_pv hP (by rw [zst3_1 (by rw [hE]; exact hlt) (by unfold zsl; rw [hE]; exact ((nI_ltI (by omega) (by omega)).mp (b2i_n.mp h_8)))]; unfold zsl; rw [hE]))
          · skip
            refine A_aload_n dX5_step_57 rfl rfl ?_
            refine A_iconst (v := 0) dX5_step_58 (by decide) ?_
            refine B_putI dX5_step_59 fwX5_19 (hT 0 _ rfl) rfl ?_
            refine B_sg (show _ = (zTp sg o 0 (nI E) (nI E)) from zTp_w2) ?_
            refine A_goto (tgt := 136) dX5_step_62 rfl ?_
            exact A_vret dX5_step_136 rfl (az_pv hP (by rw [zst3_0 (by rw [hE]; exact ((nI_leI (by omega) (by omega)).mp (Int32.not_lt.mp h_7))), hE]))
        · skip
          exact absurd (show zspc (sg (o + 1)) E = true from decide_eq_true h_6) (by rw [hend (Nat.lt_of_not_le (fun q => h_1 (nI_le q (by omega))))]; intro q; cases q)
    | succ q_i9 ih =>
      intro i9  hi_i9 hei 
      refine A_aload_n dX5_step_0 rfl rfl ?_
      refine B_getV (nI i9) dX5_step_1 flX5_25 (hT 0 _ rfl) rfl (zTp_4 _ _ _ _ _) ?_
      refine A_aload_n dX5_step_4 rfl rfl ?_
      refine B_getV (nI m) dX5_step_5 flX5_15 (hT 0 _ rfl) rfl ((zTp_1 _ _ _ _ _).trans hm) ?_
      refine A_icmp_ge (tgt := 38) dX5_step_8 rfl (fun h_11 => ?_) (fun h_11 => ?_)
      · skip
        exact absurd h_11 (nI_ge (by omega) (by omega))
      · skip
        have hlt9 : i9 < m := Nat.lt_of_not_le (fun q => h_11 (nI_le q (by omega)))
        refine A_aload_n dX5_step_11 rfl rfl ?_
        refine B_getR (r := (o + 1)) dX5_step_12 flX5_9 (hT 0 _ rfl) rfl ?_
        refine A_aload_n dX5_step_15 rfl rfl ?_
        refine B_getV (nI i9) dX5_step_16 flX5_25 (hT 0 _ rfl) rfl (zTp_4 _ _ _ _ _) ?_
        refine B_ialdV (i := i9) (sg (o + 1) i9) dX5_step_19 (hT 1 _ rfl) (by decide) (rfl) (by omega) (congrFun (zTp_ne (by omega)) _) ?_
        refine A_bipush (v := 32) dX5_step_20 (by decide) ?_
        refine A_icmp_ne (tgt := 38) dX5_step_22 rfl (fun h_12 => ?_) (fun h_12 => ?_)
        · skip
          exact absurd (of_decide_eq_true (hin i9 (by omega) (by omega))) h_12
        · skip
          refine A_aload_n dX5_step_25 rfl rfl ?_
          refine A_dup dX5_step_26 rfl ?_
          refine B_getV (nI i9) dX5_step_27 flX5_25 (hT 0 _ rfl) rfl (zTp_4 _ _ _ _ _) ?_
          refine A_iconst (v := 1) dX5_step_30 (by decide) ?_
          refine A_iadd dX5_step_31 ?_
          refine B_top (nI_1 i9) ?_
          refine B_putI dX5_step_32 fwX5_25 (hT 0 _ rfl) rfl ?_
          refine B_sg (show _ = (zTp sg o t s (nI (i9 + 1))) from zTp_w4) ?_
          refine A_goto (tgt := 0) dX5_step_35 rfl ?_
          refine ih (i9 + 1) (by omega) (by omega)
  exact loop ((E) - (e)) e (by omega) (Nat.le_refl _)
