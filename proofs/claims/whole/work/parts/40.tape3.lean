theorem p_X5_step (l : Launch) (G : az_Gh) (d : Nat) (sh : List az_Sh) (sg : Nat → Nat → Int32) (la : Nat → Nat → Int64) (o m e : Nat) (t s : Int32) (n0 : Nat) (c : CT) (hT : az_at sh o (lyP o)) (hm : sg o 1 = nI m) (hm2 : m ≤ 250) (he : e ≤ m) (ho : o + 1 < n0 ∨ n0 + 6 ≤ o) : FM l G (d + 1) mX5_step [.ref o] (sh, zput (zTp sg o t s (nI e)) n0 c, la) (none) (sh, zput (zTs sg o (sg (o + 1)) m e) n0 c, la) := by
  have q := c_X5_step l G d sh (zput sg n0 c) la o m e t s hT (by rw [zput_ne (by omega)]; exact hm) hm2 he
  rw [zput_ne (k := o + 1) (by omega), zTp_put (by omega), zTp_put (by omega)] at q
  exact q
theorem p_X5_readNumber (l : Launch) (G : az_Gh) (d : Nat) (sh : List az_Sh) (sg : Nat → Nat → Int32) (la : Nat → Nat → Int64) (o m e : Nat) (t s most : Int32) (n0 : Nat) (c : CT) (hT : az_at sh o (lyP o)) (hm : sg o 1 = nI m) (hm2 : m ≤ 250) (he : e ≤ m) (ho : o + 1 < n0 ∨ n0 + 6 ≤ o) : FM l G (d + 2) mX5_readNumber [.ref o, .int most] (sh, zput (zTp sg o t s (nI e)) n0 c, la) (some (.int (znum (sg (o + 1)) m e most))) (sh, zput (zTs sg o (sg (o + 1)) m e) n0 c, la) := by
  have q := c_X5_readNumber l G d sh (zput sg n0 c) la o m e t s most hT (by rw [zput_ne (by omega)]; exact hm) hm2 he
  rw [zput_ne (k := o + 1) (by omega), zTp_put (by omega), zTp_put (by omega)] at q
  exact q
theorem p_X5_isWord (l : Launch) (G : az_Gh) (d : Nat) (sh : List az_Sh) (sg : Nat → Nat → Int32) (la : Nat → Nat → Int64) (o m e k n0 : Nat) (c : CT) (hT : az_at sh o (lyP o)) (hm : sg o 1 = nI m) (hm2 : m ≤ 250) (he : e ≤ m) (hk : k < 7) (ho : o + 1 < n0 ∨ n0 + 6 ≤ o) : FM l G (d + 4) mX5_isWord [.ref o, .ref (2000 + k)] (sh, zput (zTs sg o (sg (o + 1)) m e) n0 c, la) (some (.int (b2i (zwd (sg (o + 1)) (zst3 (sg (o + 1)) m e).1 (zss (sg (o + 1)) m e) (znx (sg (o + 1)) m e) k = true)))) (sh, zput (zTs sg o (sg (o + 1)) m e) n0 c, la) := by
  have q := c_X5_isWord l G d sh (zput sg n0 c) la o m (zss (sg (o + 1)) m e) (znx (sg (o + 1)) m e) k (zst3 (sg (o + 1)) m e).1 hT (by rw [zput_ne (by omega)]; exact hm) hm2 (zst3_le he).2.1 (znx_le he) hk
  rw [zput_ne (k := o + 1) (by omega), zTp_put (by omega)] at q
  exact q
set_option maxHeartbeats 600000 in
set_option maxRecDepth 100000 in
theorem c_X5_readPerson (l : Launch) (G : az_Gh) (d : Nat) (sh : List az_Sh) (sg : Nat → Nat → Int32) (la : Nat → Nat → Int64) (o m e n0 : Nat) (c : CT) (hT : az_at sh o (lyP o)) (hm : sg o 1 = nI m) (hm2 : m ≤ 250) (he : e ≤ m) (hC : az_at sh n0 (lyC n0)) (ho : o + 1 < n0 ∨ n0 + 6 ≤ o) (hO : cOk c) (h7 : cN c < 8) : FM l G (d + 3) mX5_readPerson [.ref o, .ref n0] (sh, (zput (zTs sg o (sg (o + 1)) m e) n0 c), la) (some (.int (b2i ((zper (sg (o + 1)) m (znx (sg (o + 1)) m e) c).1 = true)))) (sh, zput (zTs sg o (sg (o + 1)) m (zper (sg (o + 1)) m (znx (sg (o + 1)) m e) c).2.1) n0 (zper (sg (o + 1)) m (znx (sg (o + 1)) m e) c).2.2, la) := by
  refine az_fm knX5_readPerson (Nat.le_of_ble_eq_true rfl) rfl (fun Post hP => ?_)
  show AW l G mX5_readPerson (d + 3) (az_F G Post) 0 0 0 [some (.ref o), some (.ref n0), none, none, none] [] (sh, (zput (zTs sg o (sg (o + 1)) m e) n0 c), la)
  refine A_aload_n dX5_readPerson_0 rfl rfl ?_
  refine A_iconst (v := 5) dX5_readPerson_1 (by decide) ?_
  refine A_callV (n := 0) dX5_readPerson_2 kvX5_readNumber mlX5_82 rfl (az_rc_obj clX5 (hT 0 _ rfl)) (p_X5_readNumber l G d sh sg la o m (znx (sg (o + 1)) m e) (zst3 (sg (o + 1)) m e).1 (nI (zss (sg (o + 1)) m e)) 5 n0 c hT hm hm2 (znx_le he) ho) (by omega) (Nat.le_refl _) (Nat.le_refl _) rfl (Nat.le_of_ble_eq_true rfl) (fun r S1 hp => ?_)
  obtain ⟨rfl, rfl⟩ := hp
  show AW l G mX5_readPerson (d + 3) (az_F G Post) 0 0 5 [some (.ref o), some (.ref n0), none, none, none] [.int (znum (sg (o + 1)) m (znx (sg (o + 1)) m e) 5)] (sh, (zput (zTs sg o (sg (o + 1)) m (znx (sg (o + 1)) m e)) n0 c), la)
  refine A_istore_n (lo2 := [some (.ref o), some (.ref n0), some (.int (znum (sg (o + 1)) m (znx (sg (o + 1)) m e) 5)), none, none]) dX5_readPerson_5 rfl (by decide) rfl ?_
  refine A_iload_n dX5_readPerson_6 rfl rfl ?_
  refine A_iconst (v := (-1)) dX5_readPerson_7 (by decide) ?_
  refine A_icmp_ne (tgt := 15) dX5_readPerson_8 rfl (fun h_1 => ?_) (fun h_1 => ?_)
  · skip
    refine A_aload_n dX5_readPerson_15 rfl rfl ?_
    refine A_bipush (v := 9) dX5_readPerson_16 (by decide) ?_
    refine A_callV (n := 0) dX5_readPerson_18 kvX5_readNumber mlX5_82 rfl (az_rc_obj clX5 (hT 0 _ rfl)) (p_X5_readNumber l G d sh sg la o m (znx (sg (o + 1)) m (znx (sg (o + 1)) m e)) (zst3 (sg (o + 1)) m (znx (sg (o + 1)) m e)).1 (nI (zss (sg (o + 1)) m (znx (sg (o + 1)) m e))) 9 n0 c hT hm hm2 (znx_le (znx_le he)) ho) (by omega) (Nat.le_refl _) (Nat.le_refl _) rfl (Nat.le_of_ble_eq_true rfl) (fun r S1 hp => ?_)
    obtain ⟨rfl, rfl⟩ := hp
    show AW l G mX5_readPerson (d + 3) (az_F G Post) 0 0 21 [some (.ref o), some (.ref n0), some (.int (znum (sg (o + 1)) m (znx (sg (o + 1)) m e) 5)), none, none] [.int (znum (sg (o + 1)) m (znx (sg (o + 1)) m (znx (sg (o + 1)) m e)) 9)] (sh, (zput (zTs sg o (sg (o + 1)) m (znx (sg (o + 1)) m (znx (sg (o + 1)) m e))) n0 c), la)
    refine A_istore_n (lo2 := [some (.ref o), some (.ref n0), some (.int (znum (sg (o + 1)) m (znx (sg (o + 1)) m e) 5)), some (.int (znum (sg (o + 1)) m (znx (sg (o + 1)) m (znx (sg (o + 1)) m e)) 9)), none]) dX5_readPerson_21 rfl (by decide) rfl ?_
    refine A_iload_n dX5_readPerson_22 rfl rfl ?_
    refine A_iconst (v := (-1)) dX5_readPerson_23 (by decide) ?_
    refine A_icmp_ne (tgt := 31) dX5_readPerson_24 rfl (fun h_2 => ?_) (fun h_2 => ?_)
    · skip
      refine A_aload_n dX5_readPerson_31 rfl rfl ?_
      refine A_bipush (v := 20) dX5_readPerson_32 (by decide) ?_
      refine A_callV (n := 0) dX5_readPerson_34 kvX5_readNumber mlX5_82 rfl (az_rc_obj clX5 (hT 0 _ rfl)) (p_X5_readNumber l G d sh sg la o m (znx (sg (o + 1)) m (znx (sg (o + 1)) m (znx (sg (o + 1)) m e))) (zst3 (sg (o + 1)) m (znx (sg (o + 1)) m (znx (sg (o + 1)) m e))).1 (nI (zss (sg (o + 1)) m (znx (sg (o + 1)) m (znx (sg (o + 1)) m e)))) 20 n0 c hT hm hm2 (znx_le (znx_le (znx_le he))) ho) (by omega) (Nat.le_refl _) (Nat.le_refl _) rfl (Nat.le_of_ble_eq_true rfl) (fun r S1 hp => ?_)
      obtain ⟨rfl, rfl⟩ := hp
      show AW l G mX5_readPerson (d + 3) (az_F G Post) 0 0 37 [some (.ref o), some (.ref n0), some (.int (znum (sg (o + 1)) m (znx (sg (o + 1)) m e) 5)), some (.int (znum (sg (o + 1)) m (znx (sg (o + 1)) m (znx (sg (o + 1)) m e)) 9)), none] [.int (znum (sg (o + 1)) m (znx (sg (o + 1)) m (znx (sg (o + 1)) m (znx (sg (o + 1)) m e))) 20)] (sh, (zput (zTs sg o (sg (o + 1)) m (znx (sg (o + 1)) m (znx (sg (o + 1)) m (znx (sg (o + 1)) m e)))) n0 c), la)
      refine A_istore (lo2 := [some (.ref o), some (.ref n0), some (.int (znum (sg (o + 1)) m (znx (sg (o + 1)) m e) 5)), some (.int (znum (sg (o + 1)) m (znx (sg (o + 1)) m (znx (sg (o + 1)) m e)) 9)), some (.int (znum (sg (o + 1)) m (znx (sg (o + 1)) m (znx (sg (o + 1)) m (znx (sg (o + 1)) m e))) 20))]) dX5_readPerson_37 (by decide) rfl ?_
      refine A_iload dX5_readPerson_39 rfl ?_
      refine A_iconst (v := (-1)) dX5_readPerson_41 (by decide) ?_
      refine A_icmp_eq (tgt := 61) dX5_readPerson_42 rfl (fun h_3 => ?_) (fun h_3 => ?_)
      · skip
        refine A_iconst (v := 0) dX5_readPerson_61 (by decide) ?_
        refine A_zret dX5_readPerson_62 rfl rfl (az_pi hP ?_ (by rw [zper_3 h_1 h_2 h_3]))
        (rw [zper_3 h_1 h_2 h_3]; rfl)
      · skip
        refine A_aload_n dX5_readPerson_45 rfl rfl ?_
        refine A_iload_n dX5_readPerson_46 rfl rfl ?_
        refine A_iload_n dX5_readPerson_47 rfl rfl ?_
        refine A_iload dX5_readPerson_48 rfl ?_
        refine A_callV (n := 0) dX5_readPerson_50 kvX2_settle mlX5_100 rfl (az_rc_obj clX2 (hC 0 _ rfl)) (z_X2_settle l G (d + 1) sh (zTs sg o (sg (o + 1)) m (znx (sg (o + 1)) m (znx (sg (o + 1)) m (znx (sg (o + 1)) m e)))) la n0 c (znum (sg (o + 1)) m (znx (sg (o + 1)) m e) 5) (znum (sg (o + 1)) m (znx (sg (o + 1)) m (znx (sg (o + 1)) m e)) 9) (znum (sg (o + 1)) m (znx (sg (o + 1)) m (znx (sg (o + 1)) m (znx (sg (o + 1)) m e))) 20) hC hO h7) (by omega) (Nat.le_refl _) (Nat.le_refl _) rfl (Nat.le_of_ble_eq_true rfl) (fun r S1 hp => ?_)
        obtain ⟨rfl, rfl⟩ := hp
        show AW l G mX5_readPerson (d + 3) (az_F G Post) 0 0 53 [some (.ref o), some (.ref n0), some (.int (znum (sg (o + 1)) m (znx (sg (o + 1)) m e) 5)), some (.int (znum (sg (o + 1)) m (znx (sg (o + 1)) m (znx (sg (o + 1)) m e)) 9)), some (.int (znum (sg (o + 1)) m (znx (sg (o + 1)) m (znx (sg (o + 1)) m (znx (sg (o + 1)) m e))) 20))] [.int (nI (cN c))] (sh, (zput (zTs sg o (sg (o + 1)) m (znx (sg (o + 1)) m (znx (sg (o + 1)) m (znx (sg (o + 1)) m e)))) n0 (zsettle c (znum (sg (o + 1)) m (znx (sg (o + 1)) m e) 5) (znum (sg (o + 1)) m (znx (sg (o + 1)) m (znx (sg (o + 1)) m e)) 9) (znum (sg (o + 1)) m (znx (sg (o + 1)) m (znx (sg (o + 1)) m (znx (sg (o + 1)) m e))) 20))), la)
        refine A_iconst (v := (-1)) dX5_readPerson_53 (by decide) ?_
        refine A_icmp_eq (tgt := 61) dX5_readPerson_54 rfl (fun h_4 => ?_) (fun h_4 => ?_)
        · skip
          exact absurd h_4 (nI_n1 (by omega))
        · skip
          refine A_iconst (v := 1) dX5_readPerson_57 (by decide) ?_
          refine A_goto (tgt := 62) dX5_readPerson_58 rfl ?_
          refine A_zret dX5_readPerson_62 rfl rfl (az_pi hP ?_ (by rw [zper_4 h_1 h_2 h_3]))
          (rw [zper_4 h_1 h_2 h_3]; rfl)
    · skip
      refine A_iconst (v := (-1)) dX5_readPerson_27 (by decide) ?_
      refine A_goto (tgt := 37) dX5_readPerson_28 rfl ?_
      refine A_istore (lo2 := [some (.ref o), some (.ref n0), some (.int (znum (sg (o + 1)) m (znx (sg (o + 1)) m e) 5)), some (.int (znum (sg (o + 1)) m (znx (sg (o + 1)) m (znx (sg (o + 1)) m e)) 9)), some (.int (-1))]) dX5_readPerson_37 (by decide) rfl ?_
      refine A_iload dX5_readPerson_39 rfl ?_
      refine A_iconst (v := (-1)) dX5_readPerson_41 (by decide) ?_
      refine A_icmp_eq (tgt := 61) dX5_readPerson_42 rfl (fun h_5 => ?_) (fun h_5 => ?_)
      · skip
        refine A_iconst (v := 0) dX5_readPerson_61 (by decide) ?_
        refine A_zret dX5_readPerson_62 rfl rfl (az_pi hP ?_ (by rw [zper_2 h_1 h_2]))
        (rw [zper_2 h_1 h_2]; rfl)
      · skip
        exact absurd (by decide) h_5
  · skip
    refine A_iconst (v := (-1)) dX5_readPerson_11 (by decide) ?_
    refine A_goto (tgt := 21) dX5_readPerson_12 rfl ?_
    refine A_istore_n (lo2 := [some (.ref o), some (.ref n0), some (.int (znum (sg (o + 1)) m (znx (sg (o + 1)) m e) 5)), some (.int (-1)), none]) dX5_readPerson_21 rfl (by decide) rfl ?_
    refine A_iload_n dX5_readPerson_22 rfl rfl ?_
    refine A_iconst (v := (-1)) dX5_readPerson_23 (by decide) ?_
    refine A_icmp_ne (tgt := 31) dX5_readPerson_24 rfl (fun h_6 => ?_) (fun h_6 => ?_)
    · skip
      exact absurd rfl h_6
    · skip
      refine A_iconst (v := (-1)) dX5_readPerson_27 (by decide) ?_
      refine A_goto (tgt := 37) dX5_readPerson_28 rfl ?_
      refine A_istore (lo2 := [some (.ref o), some (.ref n0), some (.int (znum (sg (o + 1)) m (znx (sg (o + 1)) m e) 5)), some (.int (-1)), some (.int (-1))]) dX5_readPerson_37 (by decide) rfl ?_
      refine A_iload dX5_readPerson_39 rfl ?_
      refine A_iconst (v := (-1)) dX5_readPerson_41 (by decide) ?_
      refine A_icmp_eq (tgt := 61) dX5_readPerson_42 rfl (fun h_7 => ?_) (fun h_7 => ?_)
      · skip
        refine A_iconst (v := 0) dX5_readPerson_61 (by decide) ?_
        refine A_zret dX5_readPerson_62 rfl rfl (az_pi hP ?_ (by rw [zper_1 h_1]))
        (rw [zper_1 h_1]; rfl)
      · skip
        exact absurd (by decide) h_7
set_option maxHeartbeats 600000 in
set_option maxRecDepth 100000 in
theorem c_X5_readPortion_F (l : Launch) (G : az_Gh) (d : Nat) (sh : List az_Sh) (sg : Nat → Nat → Int32) (la : Nat → Nat → Int64) (o m e n0 N : Nat) (c : CT) (hT : az_at sh o (lyP o)) (hm : sg o 1 = nI m) (hm2 : m ≤ 250) (he : e ≤ m) (hC : az_at sh n0 (lyC n0)) (ho : o + 1 < n0 ∨ n0 + 6 ≤ o) (hN : N ≤ 8) : FM l G (d + 3) mX5_readPortion [.ref o, .ref (n0 + 5), .int (nI N), .int 40] (sh, (zput (zTs sg o (sg (o + 1)) m e) n0 c), la) (some (.int (b2i ((zpor (sg (o + 1)) m (znx (sg (o + 1)) m e) (cFe c) N 40).1 = true)))) (sh, zput (zTs sg o (sg (o + 1)) m (zpor (sg (o + 1)) m (znx (sg (o + 1)) m e) (cFe c) N 40).2.1) n0 (sFe c (zpor (sg (o + 1)) m (znx (sg (o + 1)) m e) (cFe c) N 40).2.2), la) := by
  refine az_fm knX5_readPortion (Nat.le_of_ble_eq_true rfl) rfl (fun Post hP => ?_)
  show AW l G mX5_readPortion (d + 3) (az_F G Post) 0 0 0 [some (.ref o), some (.ref (n0 + 5)), some (.int (nI N)), some (.int 40), none, none] [] (sh, (zput (zTs sg o (sg (o + 1)) m e) n0 c), la)
  refine A_aload_n dX5_readPortion_0 rfl rfl ?_
  refine A_iload_n dX5_readPortion_1 rfl rfl ?_
  refine A_iconst (v := 1) dX5_readPortion_2 (by decide) ?_
  refine A_isub dX5_readPortion_3 ?_
  refine A_callV (n := 0) dX5_readPortion_4 kvX5_readNumber mlX5_82 rfl (az_rc_obj clX5 (hT 0 _ rfl)) (p_X5_readNumber l G d sh sg la o m (znx (sg (o + 1)) m e) (zst3 (sg (o + 1)) m e).1 (nI (zss (sg (o + 1)) m e)) (nI N - 1) n0 c hT hm hm2 (znx_le he) ho) (by omega) (Nat.le_refl _) (Nat.le_refl _) rfl (Nat.le_of_ble_eq_true rfl) (fun r S1 hp => ?_)
  obtain ⟨rfl, rfl⟩ := hp
  show AW l G mX5_readPortion (d + 3) (az_F G Post) 0 0 7 [some (.ref o), some (.ref (n0 + 5)), some (.int (nI N)), some (.int 40), none, none] [.int (znum (sg (o + 1)) m (znx (sg (o + 1)) m e) (nI N - 1))] (sh, (zput (zTs sg o (sg (o + 1)) m (znx (sg (o + 1)) m e)) n0 c), la)
  refine A_istore (lo2 := [some (.ref o), some (.ref (n0 + 5)), some (.int (nI N)), some (.int 40), some (.int (znum (sg (o + 1)) m (znx (sg (o + 1)) m e) (nI N - 1))), none]) dX5_readPortion_7 (by decide) rfl ?_
  refine A_iload dX5_readPortion_9 rfl ?_
  refine A_iconst (v := (-1)) dX5_readPortion_11 (by decide) ?_
  refine A_icmp_ne (tgt := 19) dX5_readPortion_12 rfl (fun h_1 => ?_) (fun h_1 => ?_)
  · skip
    refine A_aload_n dX5_readPortion_19 rfl rfl ?_
    refine A_iload_n dX5_readPortion_20 rfl rfl ?_
    refine A_callV (n := 0) dX5_readPortion_21 kvX5_readNumber mlX5_82 rfl (az_rc_obj clX5 (hT 0 _ rfl)) (p_X5_readNumber l G d sh sg la o m (znx (sg (o + 1)) m (znx (sg (o + 1)) m e)) (zst3 (sg (o + 1)) m (znx (sg (o + 1)) m e)).1 (nI (zss (sg (o + 1)) m (znx (sg (o + 1)) m e))) 40 n0 c hT hm hm2 (znx_le (znx_le he)) ho) (by omega) (Nat.le_refl _) (Nat.le_refl _) rfl (Nat.le_of_ble_eq_true rfl) (fun r S1 hp => ?_)
    obtain ⟨rfl, rfl⟩ := hp
    show AW l G mX5_readPortion (d + 3) (az_F G Post) 0 0 24 [some (.ref o), some (.ref (n0 + 5)), some (.int (nI N)), some (.int 40), some (.int (znum (sg (o + 1)) m (znx (sg (o + 1)) m e) (nI N - 1))), none] [.int (znum (sg (o + 1)) m (znx (sg (o + 1)) m (znx (sg (o + 1)) m e)) 40)] (sh, (zput (zTs sg o (sg (o + 1)) m (znx (sg (o + 1)) m (znx (sg (o + 1)) m e))) n0 c), la)
    refine A_istore (lo2 := [some (.ref o), some (.ref (n0 + 5)), some (.int (nI N)), some (.int 40), some (.int (znum (sg (o + 1)) m (znx (sg (o + 1)) m e) (nI N - 1))), some (.int (znum (sg (o + 1)) m (znx (sg (o + 1)) m (znx (sg (o + 1)) m e)) 40))]) dX5_readPortion_24 (by decide) rfl ?_
    refine A_iload dX5_readPortion_26 rfl ?_
    refine A_iconst (v := (-1)) dX5_readPortion_28 (by decide) ?_
    refine A_icmp_eq (tgt := 39) dX5_readPortion_29 rfl (fun h_2 => ?_) (fun h_2 => ?_)
    · skip
      refine A_iconst (v := 0) dX5_readPortion_39 (by decide) ?_
      refine A_zret dX5_readPortion_40 rfl rfl (az_pi hP ?_ (by rw [zpor_2 h_1 h_2]; rfl))
      (rw [zpor_2 h_1 h_2]; rfl)
    · skip
      obtain ⟨w1, hw2, hw1, hw3⟩ := znum_rng (znx_le he) h_1
      have hw8 := znum_N hN hw2 hw3
      refine A_iload dX5_readPortion_32 rfl ?_
      refine A_aload_n dX5_readPortion_34 rfl rfl ?_
      refine B_alenI dX5_readPortion_35 (hC 5 _ rfl) ?_
      refine A_icmp_lt (tgt := 41) dX5_readPortion_36 rfl (fun h_3 => ?_) (fun h_3 => ?_)
      · skip
        refine A_aload_n dX5_readPortion_41 rfl rfl ?_
        refine A_iload dX5_readPortion_42 rfl ?_
        refine A_iload dX5_readPortion_44 rfl ?_
        refine B_iast (i := w1) dX5_readPortion_46 (hC 5 _ rfl) (by decide) (hw1) (hw8) ?_
        refine B_sg (show _ = (zput (zTs sg o (sg (o + 1)) m (znx (sg (o + 1)) m (znx (sg (o + 1)) m e))) n0 (sFe c (va_up (cFe c) w1 (znum (sg (o + 1)) m (znx (sg (o + 1)) m (znx (sg (o + 1)) m e)) 40)))) from zx_5 _ _ _ _ _) ?_
        refine A_iconst (v := 1) dX5_readPortion_47 (by decide) ?_
        refine A_zret dX5_readPortion_48 rfl rfl (az_pi hP ?_ (by rw [zpor_3 h_1 h_2 hw1 hw2]))
        (rw [zpor_3 h_1 h_2 hw1 hw2]; rfl)
      · skip
        exact absurd (by rw [hw1]; exact nI_lt (b := 8) hw8 (by decide)) h_3
  · skip
    refine A_iconst (v := (-1)) dX5_readPortion_15 (by decide) ?_
    refine A_goto (tgt := 24) dX5_readPortion_16 rfl ?_
    refine A_istore (lo2 := [some (.ref o), some (.ref (n0 + 5)), some (.int (nI N)), some (.int 40), some (.int (znum (sg (o + 1)) m (znx (sg (o + 1)) m e) (nI N - 1))), some (.int (-1))]) dX5_readPortion_24 (by decide) rfl ?_
    refine A_iload dX5_readPortion_26 rfl ?_
    refine A_iconst (v := (-1)) dX5_readPortion_28 (by decide) ?_
    refine A_icmp_eq (tgt := 39) dX5_readPortion_29 rfl (fun h_4 => ?_) (fun h_4 => ?_)
    · skip
      refine A_iconst (v := 0) dX5_readPortion_39 (by decide) ?_
      refine A_zret dX5_readPortion_40 rfl rfl (az_pi hP ?_ (by rw [zpor_1 h_1]; rfl))
      (rw [zpor_1 h_1]; rfl)
    · skip
      exact absurd (by decide) h_4
set_option maxHeartbeats 600000 in
set_option maxRecDepth 100000 in
theorem c_X5_readPortion_B (l : Launch) (G : az_Gh) (d : Nat) (sh : List az_Sh) (sg : Nat → Nat → Int32) (la : Nat → Nat → Int64) (o m e n0 N : Nat) (c : CT) (hT : az_at sh o (lyP o)) (hm : sg o 1 = nI m) (hm2 : m ≤ 250) (he : e ≤ m) (hC : az_at sh n0 (lyC n0)) (ho : o + 1 < n0 ∨ n0 + 6 ≤ o) (hN : N ≤ 8) : FM l G (d + 3) mX5_readPortion [.ref o, .ref (n0 + 4), .int (nI N), .int 9] (sh, (zput (zTs sg o (sg (o + 1)) m e) n0 c), la) (some (.int (b2i ((zpor (sg (o + 1)) m (znx (sg (o + 1)) m e) (cBr c) N 9).1 = true)))) (sh, zput (zTs sg o (sg (o + 1)) m (zpor (sg (o + 1)) m (znx (sg (o + 1)) m e) (cBr c) N 9).2.1) n0 (sBr c (zpor (sg (o + 1)) m (znx (sg (o + 1)) m e) (cBr c) N 9).2.2), la) := by
  refine az_fm knX5_readPortion (Nat.le_of_ble_eq_true rfl) rfl (fun Post hP => ?_)
  show AW l G mX5_readPortion (d + 3) (az_F G Post) 0 0 0 [some (.ref o), some (.ref (n0 + 4)), some (.int (nI N)), some (.int 9), none, none] [] (sh, (zput (zTs sg o (sg (o + 1)) m e) n0 c), la)
  refine A_aload_n dX5_readPortion_0 rfl rfl ?_
  refine A_iload_n dX5_readPortion_1 rfl rfl ?_
  refine A_iconst (v := 1) dX5_readPortion_2 (by decide) ?_
  refine A_isub dX5_readPortion_3 ?_
  refine A_callV (n := 0) dX5_readPortion_4 kvX5_readNumber mlX5_82 rfl (az_rc_obj clX5 (hT 0 _ rfl)) (p_X5_readNumber l G d sh sg la o m (znx (sg (o + 1)) m e) (zst3 (sg (o + 1)) m e).1 (nI (zss (sg (o + 1)) m e)) (nI N - 1) n0 c hT hm hm2 (znx_le he) ho) (by omega) (Nat.le_refl _) (Nat.le_refl _) rfl (Nat.le_of_ble_eq_true rfl) (fun r S1 hp => ?_)
  obtain ⟨rfl, rfl⟩ := hp
  show AW l G mX5_readPortion (d + 3) (az_F G Post) 0 0 7 [some (.ref o), some (.ref (n0 + 4)), some (.int (nI N)), some (.int 9), none, none] [.int (znum (sg (o + 1)) m (znx (sg (o + 1)) m e) (nI N - 1))] (sh, (zput (zTs sg o (sg (o + 1)) m (znx (sg (o + 1)) m e)) n0 c), la)
  refine A_istore (lo2 := [some (.ref o), some (.ref (n0 + 4)), some (.int (nI N)), some (.int 9), some (.int (znum (sg (o + 1)) m (znx (sg (o + 1)) m e) (nI N - 1))), none]) dX5_readPortion_7 (by decide) rfl ?_
  refine A_iload dX5_readPortion_9 rfl ?_
  refine A_iconst (v := (-1)) dX5_readPortion_11 (by decide) ?_
  refine A_icmp_ne (tgt := 19) dX5_readPortion_12 rfl (fun h_1 => ?_) (fun h_1 => ?_)
  · skip
    refine A_aload_n dX5_readPortion_19 rfl rfl ?_
    refine A_iload_n dX5_readPortion_20 rfl rfl ?_
    refine A_callV (n := 0) dX5_readPortion_21 kvX5_readNumber mlX5_82 rfl (az_rc_obj clX5 (hT 0 _ rfl)) (p_X5_readNumber l G d sh sg la o m (znx (sg (o + 1)) m (znx (sg (o + 1)) m e)) (zst3 (sg (o + 1)) m (znx (sg (o + 1)) m e)).1 (nI (zss (sg (o + 1)) m (znx (sg (o + 1)) m e))) 9 n0 c hT hm hm2 (znx_le (znx_le he)) ho) (by omega) (Nat.le_refl _) (Nat.le_refl _) rfl (Nat.le_of_ble_eq_true rfl) (fun r S1 hp => ?_)
    obtain ⟨rfl, rfl⟩ := hp
    show AW l G mX5_readPortion (d + 3) (az_F G Post) 0 0 24 [some (.ref o), some (.ref (n0 + 4)), some (.int (nI N)), some (.int 9), some (.int (znum (sg (o + 1)) m (znx (sg (o + 1)) m e) (nI N - 1))), none] [.int (znum (sg (o + 1)) m (znx (sg (o + 1)) m (znx (sg (o + 1)) m e)) 9)] (sh, (zput (zTs sg o (sg (o + 1)) m (znx (sg (o + 1)) m (znx (sg (o + 1)) m e))) n0 c), la)
    refine A_istore (lo2 := [some (.ref o), some (.ref (n0 + 4)), some (.int (nI N)), some (.int 9), some (.int (znum (sg (o + 1)) m (znx (sg (o + 1)) m e) (nI N - 1))), some (.int (znum (sg (o + 1)) m (znx (sg (o + 1)) m (znx (sg (o + 1)) m e)) 9))]) dX5_readPortion_24 (by decide) rfl ?_
    refine A_iload dX5_readPortion_26 rfl ?_
    refine A_iconst (v := (-1)) dX5_readPortion_28 (by decide) ?_
    refine A_icmp_eq (tgt := 39) dX5_readPortion_29 rfl (fun h_2 => ?_) (fun h_2 => ?_)
    · skip
      refine A_iconst (v := 0) dX5_readPortion_39 (by decide) ?_
      refine A_zret dX5_readPortion_40 rfl rfl (az_pi hP ?_ (by rw [zpor_2 h_1 h_2]; rfl))
      (rw [zpor_2 h_1 h_2]; rfl)
    · skip
      obtain ⟨w1, hw2, hw1, hw3⟩ := znum_rng (znx_le he) h_1
      have hw8 := znum_N hN hw2 hw3
      refine A_iload dX5_readPortion_32 rfl ?_
      refine A_aload_n dX5_readPortion_34 rfl rfl ?_
      refine B_alenI dX5_readPortion_35 (hC 4 _ rfl) ?_
      refine A_icmp_lt (tgt := 41) dX5_readPortion_36 rfl (fun h_3 => ?_) (fun h_3 => ?_)
      · skip
        refine A_aload_n dX5_readPortion_41 rfl rfl ?_
        refine A_iload dX5_readPortion_42 rfl ?_
        refine A_iload dX5_readPortion_44 rfl ?_
        refine B_iast (i := w1) dX5_readPortion_46 (hC 4 _ rfl) (by decide) (hw1) (hw8) ?_
        refine B_sg (show _ = (zput (zTs sg o (sg (o + 1)) m (znx (sg (o + 1)) m (znx (sg (o + 1)) m e))) n0 (sBr c (va_up (cBr c) w1 (znum (sg (o + 1)) m (znx (sg (o + 1)) m (znx (sg (o + 1)) m e)) 9)))) from zx_4 _ _ _ _ _) ?_
        refine A_iconst (v := 1) dX5_readPortion_47 (by decide) ?_
        refine A_zret dX5_readPortion_48 rfl rfl (az_pi hP ?_ (by rw [zpor_3 h_1 h_2 hw1 hw2]))
        (rw [zpor_3 h_1 h_2 hw1 hw2]; rfl)
      · skip
        exact absurd (by rw [hw1]; exact nI_lt (b := 8) hw8 (by decide)) h_3
  · skip
    refine A_iconst (v := (-1)) dX5_readPortion_15 (by decide) ?_
    refine A_goto (tgt := 24) dX5_readPortion_16 rfl ?_
    refine A_istore (lo2 := [some (.ref o), some (.ref (n0 + 4)), some (.int (nI N)), some (.int 9), some (.int (znum (sg (o + 1)) m (znx (sg (o + 1)) m e) (nI N - 1))), some (.int (-1))]) dX5_readPortion_24 (by decide) rfl ?_
    refine A_iload dX5_readPortion_26 rfl ?_
    refine A_iconst (v := (-1)) dX5_readPortion_28 (by decide) ?_
    refine A_icmp_eq (tgt := 39) dX5_readPortion_29 rfl (fun h_4 => ?_) (fun h_4 => ?_)
    · skip
      refine A_iconst (v := 0) dX5_readPortion_39 (by decide) ?_
      refine A_zret dX5_readPortion_40 rfl rfl (az_pi hP ?_ (by rw [zpor_1 h_1]; rfl))
      (rw [zpor_1 h_1]; rfl)
    · skip
      exact absurd (by decide) h_4
