set_option maxHeartbeats 4000000 in
set_option maxRecDepth 100000 in
theorem c_X4_holdsRow (l : Launch) (G : az_Gh) (d : Nat) (sh : List az_Sh) (sg : Nat → Nat → Int32) (la : Nat → Nat → Int64) (o : Nat) (hS : az_at sh o (lyS o)) : FM l G (d) mX4_holdsRow [.ref o] (sh, sg, la) (some (.int (b2i (¬ sg o 1 = -1)))) (sh, sg, la) := by
  refine az_fm knX4_holdsRow (Nat.le_of_ble_eq_true rfl) rfl (fun Post hP => ?_)
  show AW l G mX4_holdsRow (d) (az_F G Post) 0 0 0 [some (.ref o)] [] (sh, sg, la)
  refine A_aload_n dX4_holdsRow_0 rfl rfl ?_
  refine B_getI dX4_holdsRow_1 flX4_15 (hS 0 _ rfl) rfl ?_
  refine A_iconst (v := (-1)) dX4_holdsRow_4 (by decide) ?_
  refine A_icmp_eq (tgt := 12) dX4_holdsRow_5 rfl (fun h_1 => ?_) (fun h_1 => ?_)
  · skip
    refine A_iconst (v := 0) dX4_holdsRow_12 (by decide) ?_
    refine A_zret dX4_holdsRow_13 rfl (rfl) (az_pi hP ?_ (rfl))
    first | rfl | (simp [b2i, *]; done) | (simp_all [b2i]; done)
  · skip
    refine A_iconst (v := 1) dX4_holdsRow_8 (by decide) ?_
    refine A_goto (tgt := 13) dX4_holdsRow_9 rfl ?_
    refine A_zret dX4_holdsRow_13 rfl (rfl) (az_pi hP ?_ (rfl))
    first | rfl | (simp [b2i, *]; done) | (simp_all [b2i]; done)
set_option maxHeartbeats 4000000 in
set_option maxRecDepth 100000 in
theorem c_X4_holdsOne (l : Launch) (G : az_Gh) (d : Nat) (sh : List az_Sh) (sg : Nat → Nat → Int32) (la : Nat → Nat → Int64) (o : Nat) (hS : az_at sh o (lyS o)) : FM l G (d) mX4_holdsOne [.ref o] (sh, sg, la) (some (.int (b2i (¬ sg o 3 = -1)))) (sh, sg, la) := by
  refine az_fm knX4_holdsOne (Nat.le_of_ble_eq_true rfl) rfl (fun Post hP => ?_)
  show AW l G mX4_holdsOne (d) (az_F G Post) 0 0 0 [some (.ref o)] [] (sh, sg, la)
  refine A_aload_n dX4_holdsOne_0 rfl rfl ?_
  refine B_getI dX4_holdsOne_1 flX4_22 (hS 0 _ rfl) rfl ?_
  refine A_iconst (v := (-1)) dX4_holdsOne_4 (by decide) ?_
  refine A_icmp_eq (tgt := 12) dX4_holdsOne_5 rfl (fun h_1 => ?_) (fun h_1 => ?_)
  · skip
    refine A_iconst (v := 0) dX4_holdsOne_12 (by decide) ?_
    refine A_zret dX4_holdsOne_13 rfl (rfl) (az_pi hP ?_ (rfl))
    first | rfl | (simp [b2i, *]; done) | (simp_all [b2i]; done)
  · skip
    refine A_iconst (v := 1) dX4_holdsOne_8 (by decide) ?_
    refine A_goto (tgt := 13) dX4_holdsOne_9 rfl ?_
    refine A_zret dX4_holdsOne_13 rfl (rfl) (az_pi hP ?_ (rfl))
    first | rfl | (simp [b2i, *]; done) | (simp_all [b2i]; done)
set_option maxHeartbeats 4000000 in
set_option maxRecDepth 100000 in
theorem c_X4_isBare (l : Launch) (G : az_Gh) (d : Nat) (sh : List az_Sh) (sg : Nat → Nat → Int32) (la : Nat → Nat → Int64) (o : Nat) (hS : az_at sh o (lyS o)) : FM l G (d + 1) mX4_isBare [.ref o] (sh, sg, la) (some (.int (b2i (sg o 1 = -1 ∧ sg o 3 = -1)))) (sh, sg, la) := by
  refine az_fm knX4_isBare (Nat.le_of_ble_eq_true rfl) rfl (fun Post hP => ?_)
  show AW l G mX4_isBare (d + 1) (az_F G Post) 0 0 0 [some (.ref o)] [] (sh, sg, la)
  refine A_aload_n dX4_isBare_0 rfl rfl ?_
  refine A_callV (n := 0) dX4_isBare_1 kvX4_holdsRow mlX4_25 rfl (az_rc_obj clX4 (hS 0 _ rfl)) (c_X4_holdsRow l G d sh sg la o hS) (by omega) (Nat.le_refl _) (Nat.le_refl _) rfl (Nat.le_of_ble_eq_true rfl) (fun r S1 hp => ?_)
  obtain ⟨rfl, rfl⟩ := hp
  show AW l G mX4_isBare (d + 1) (az_F G Post) 0 0 4 [some (.ref o)] [.int (b2i (¬ sg o 1 = -1))] (sh, sg, la)
  refine A_if_ne (tgt := 18) dX4_isBare_4 rfl (fun h_1 => ?_) (fun h_1 => ?_)
  · skip
    have h_1' := b2i_n.mp h_1
    refine A_iconst (v := 0) dX4_isBare_18 (by decide) ?_
    refine A_zret dX4_isBare_19 rfl (rfl) (az_pi hP ?_ (rfl))
    first | rfl | (simp [b2i, *]; done) | (simp_all [b2i]; done)
  · skip
    have h_1' := b2i_0.mp h_1
    refine A_aload_n dX4_isBare_7 rfl rfl ?_
    refine A_callV (n := 0) dX4_isBare_8 kvX4_holdsOne mlX4_29 rfl (az_rc_obj clX4 (hS 0 _ rfl)) (c_X4_holdsOne l G d sh sg la o hS) (by omega) (Nat.le_refl _) (Nat.le_refl _) rfl (Nat.le_of_ble_eq_true rfl) (fun r S1 hp => ?_)
    obtain ⟨rfl, rfl⟩ := hp
    show AW l G mX4_isBare (d + 1) (az_F G Post) 0 0 11 [some (.ref o)] [.int (b2i (¬ sg o 3 = -1))] (sh, sg, la)
    refine A_if_ne (tgt := 18) dX4_isBare_11 rfl (fun h_2 => ?_) (fun h_2 => ?_)
    · skip
      have h_2' := b2i_n.mp h_2
      refine A_iconst (v := 0) dX4_isBare_18 (by decide) ?_
      refine A_zret dX4_isBare_19 rfl (rfl) (az_pi hP ?_ (rfl))
      first | rfl | (simp [b2i, *]; done) | (simp_all [b2i]; done)
    · skip
      have h_2' := b2i_0.mp h_2
      refine A_iconst (v := 1) dX4_isBare_14 (by decide) ?_
      refine A_goto (tgt := 19) dX4_isBare_15 rfl ?_
      refine A_zret dX4_isBare_19 rfl (rfl) (az_pi hP ?_ (rfl))
      first | rfl | (simp [b2i, *]; done) | (simp_all [b2i]; done)
set_option maxHeartbeats 4000000 in
set_option maxRecDepth 100000 in
theorem c_X4_hasPlace (l : Launch) (G : az_Gh) (d : Nat) (sh : List az_Sh) (sg : Nat → Nat → Int32) (la : Nat → Nat → Int64) (o : Nat) (i : Int32) (hS : az_at sh o (lyS o)) : FM l G (d) mX4_hasPlace [.ref o, .int i] (sh, sg, la) (some (.int (b2i (0 ≤ i ∧ i < sg o 2)))) (sh, sg, la) := by
  refine az_fm knX4_hasPlace (Nat.le_of_ble_eq_true rfl) rfl (fun Post hP => ?_)
  show AW l G mX4_hasPlace (d) (az_F G Post) 0 0 0 [some (.ref o), some (.int i)] [] (sh, sg, la)
  refine A_iload_n dX4_hasPlace_0 rfl rfl ?_
  refine A_if_lt (tgt := 16) dX4_hasPlace_1 rfl (fun h_1 => ?_) (fun h_1 => ?_)
  · skip
    refine A_iconst (v := 0) dX4_hasPlace_16 (by decide) ?_
    refine A_zret dX4_hasPlace_17 rfl (rfl) (az_pi hP ?_ (rfl))
    first | (refine b2i_t ⟨?_, ?_⟩ <;> simp_all [Int32.not_lt, Int32.not_le]; done) | (refine b2i_f (fun h => ?_); simp_all [← Int32.not_lt, ← Int32.not_le]; done)
  · skip
    refine A_iload_n dX4_hasPlace_4 rfl rfl ?_
    refine A_aload_n dX4_hasPlace_5 rfl rfl ?_
    refine B_getI dX4_hasPlace_6 flX4_19 (hS 0 _ rfl) rfl ?_
    refine A_icmp_ge (tgt := 16) dX4_hasPlace_9 rfl (fun h_2 => ?_) (fun h_2 => ?_)
    · skip
      refine A_iconst (v := 0) dX4_hasPlace_16 (by decide) ?_
      refine A_zret dX4_hasPlace_17 rfl (rfl) (az_pi hP ?_ (rfl))
      first | (refine b2i_t ⟨?_, ?_⟩ <;> simp_all [Int32.not_lt, Int32.not_le]; done) | (refine b2i_f (fun h => ?_); simp_all [← Int32.not_lt, ← Int32.not_le]; done)
    · skip
      refine A_iconst (v := 1) dX4_hasPlace_12 (by decide) ?_
      refine A_goto (tgt := 17) dX4_hasPlace_13 rfl ?_
      refine A_zret dX4_hasPlace_17 rfl (rfl) (az_pi hP ?_ (rfl))
      first | (refine b2i_t ⟨?_, ?_⟩ <;> simp_all [Int32.not_lt, Int32.not_le]; done) | (refine b2i_f (fun h => ?_); simp_all [← Int32.not_lt, ← Int32.not_le]; done)
set_option maxHeartbeats 4000000 in
set_option maxRecDepth 100000 in
theorem c_X4_holdOne (l : Launch) (G : az_Gh) (d : Nat) (sh : List az_Sh) (sg : Nat → Nat → Int32) (la : Nat → Nat → Int64) (o : Nat) (i : Int32) (hS : az_at sh o (lyS o)) : FM l G (d) mX4_holdOne [.ref o, .int i] (sh, sg, la) (none) (sh, az_w (az_w (az_w sg o 1 (-1)) o 2 0) o 3 i, la) := by
  refine az_fm knX4_holdOne (Nat.le_of_ble_eq_true rfl) rfl (fun Post hP => ?_)
  show AW l G mX4_holdOne (d) (az_F G Post) 0 0 0 [some (.ref o), some (.int i)] [] (sh, sg, la)
  refine A_aload_n dX4_holdOne_0 rfl rfl ?_
  refine A_iconst (v := (-1)) dX4_holdOne_1 (by decide) ?_
  refine B_putI dX4_holdOne_2 fwX4_15 (hS 0 _ rfl) rfl ?_
  refine A_aload_n dX4_holdOne_5 rfl rfl ?_
  refine A_iconst (v := 0) dX4_holdOne_6 (by decide) ?_
  refine B_putI dX4_holdOne_7 fwX4_19 (hS 0 _ rfl) rfl ?_
  refine A_aload_n dX4_holdOne_10 rfl rfl ?_
  refine A_iload_n dX4_holdOne_11 rfl rfl ?_
  refine B_putI dX4_holdOne_12 fwX4_22 (hS 0 _ rfl) rfl ?_
  exact A_vret dX4_holdOne_15 rfl (az_pv hP (rfl))
