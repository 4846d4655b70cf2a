theorem zsh_r {s : Nat} (h : s < 8) : ([some (some 44), some (some 46), some (some 48), some (some 50), some (some 52), some (some 54), some (some 56), some (some 58)] : List (Option (Option Nat)))[s]? = some (some (some (44 + 2 * s))) := by
  have hk : s = 0 ∨ s = 1 ∨ s = 2 ∨ s = 3 ∨ s = 4 ∨ s = 5 ∨ s = 6 ∨ s = 7 := by omega
  rcases hk with rfl | rfl | rfl | rfl | rfl | rfl | rfl | rfl <;> rfl
def zrf (sg : Nat → Nat → Int32) (s : Nat) (n : Int32) : Int32 := if ¬ sg (44 + 2 * s) 3 = -1 then -3 else if sg (44 + 2 * s) 1 = -1 ∧ sg (44 + 2 * s) 3 = -1 then -4 else if n ≤ sg (44 + 2 * s) 2 then 0 else -2
set_option maxHeartbeats 600000 in
set_option maxRecDepth 100000 in
theorem c_X7_rowFault (l : Launch) (G : az_Gh) (d : Nat) (sh : List az_Sh) (sg : Nat → Nat → Int32) (la : Nat → Nat → Int64) (s : Nat) (n : Int32) (hX : az_at sh 0 lyX) (hs : s < 8) : FM l G (d + 2) mX7_rowFault [.ref 0, .int (nI s), .int n] (sh, sg, la) (some (.int (zrf sg s n))) (sh, sg, la) := by
  refine az_fm knX7_rowFault (Nat.le_of_ble_eq_true rfl) rfl (fun Post hP => ?_)
  show AW l G mX7_rowFault (d + 2) (az_F G Post) 0 0 0 [some (.ref 0), some (.int (nI s)), some (.int n)] [] (sh, sg, la)
  have hS := lyX_shelf hX hs
  refine A_iload_n dX7_rowFault_0 rfl rfl ?_
  refine A_callS (n := 0) dX7_rowFault_1 ksX7_isShelf mlX7_69 rfl (c_X7_isShelf l G d sh sg la (nI s)) (by omega) (Nat.le_refl _) (Nat.le_refl _) rfl (Nat.le_of_ble_eq_true rfl) (fun r S1 hp => ?_)
  obtain ⟨rfl, rfl⟩ := hp
  show AW l G mX7_rowFault (d + 2) (az_F G Post) 0 0 4 [some (.ref 0), some (.int (nI s)), some (.int n)] [.int (b2i (0 ≤ nI s ∧ nI s ≤ 7))] (sh, sg, la)
  refine A_if_ne (tgt := 10) dX7_rowFault_4 rfl (fun h_1 => ?_) (fun h_1 => ?_)
  · skip
    have h_1' := b2i_n.mp h_1
    refine A_aload_n dX7_rowFault_10 rfl rfl ?_
    refine B_getR (r := 42) dX7_rowFault_11 flX7_56 (hX 0 _ rfl) rfl ?_
    refine A_iload_n dX7_rowFault_14 rfl rfl ?_
    refine B_aald (i := s) (r := (44 + 2 * s)) dX7_rowFault_15 (hX 42 _ rfl) (by decide) rfl rfl (by decide) (rfl) (by omega) (zsh_r hs) ?_
    refine A_callV (n := 0) dX7_rowFault_16 kvX4_holdsOne mlX7_96 rfl (az_rc_obj clX4 (hS 0 _ rfl)) (c_X4_holdsOne l G (d + 1) sh sg la (44 + 2 * s) hS) (by omega) (Nat.le_refl _) (Nat.le_refl _) rfl (Nat.le_of_ble_eq_true rfl) (fun r S1 hp => ?_)
    obtain ⟨rfl, rfl⟩ := hp
    show AW l G mX7_rowFault (d + 2) (az_F G Post) 0 0 19 [some (.ref 0), some (.int (nI s)), some (.int n)] [.int (b2i (¬ sg (44 + 2 * s) 3 = -1))] (sh, sg, la)
    refine A_if_eq (tgt := 25) dX7_rowFault_19 rfl (fun h_2 => ?_) (fun h_2 => ?_)
    · skip
      have h_2' := b2i_0.mp h_2
      refine A_aload_n dX7_rowFault_25 rfl rfl ?_
      refine B_getR (r := 42) dX7_rowFault_26 flX7_56 (hX 0 _ rfl) rfl ?_
      refine A_iload_n dX7_rowFault_29 rfl rfl ?_
      refine B_aald (i := s) (r := (44 + 2 * s)) dX7_rowFault_30 (hX 42 _ rfl) (by decide) rfl rfl (by decide) (rfl) (by omega) (zsh_r hs) ?_
      refine A_callV (n := 0) dX7_rowFault_31 kvX4_isBare mlX7_100 rfl (az_rc_obj clX4 (hS 0 _ rfl)) (c_X4_isBare l G d sh sg la (44 + 2 * s) hS) (by omega) (Nat.le_refl _) (Nat.le_refl _) rfl (Nat.le_of_ble_eq_true rfl) (fun r S1 hp => ?_)
      obtain ⟨rfl, rfl⟩ := hp
      show AW l G mX7_rowFault (d + 2) (az_F G Post) 0 0 34 [some (.ref 0), some (.int (nI s)), some (.int n)] [.int (b2i (sg (44 + 2 * s) 1 = -1 ∧ sg (44 + 2 * s) 3 = -1))] (sh, sg, la)
      refine A_if_eq (tgt := 40) dX7_rowFault_34 rfl (fun h_3 => ?_) (fun h_3 => ?_)
      · skip
        have h_3' := b2i_0.mp h_3
        refine A_aload_n dX7_rowFault_40 rfl rfl ?_
        refine B_getR (r := 42) dX7_rowFault_41 flX7_56 (hX 0 _ rfl) rfl ?_
        refine A_iload_n dX7_rowFault_44 rfl rfl ?_
        refine B_aald (i := s) (r := (44 + 2 * s)) dX7_rowFault_45 (hX 42 _ rfl) (by decide) rfl rfl (by decide) (rfl) (by omega) (zsh_r hs) ?_
        refine B_getI dX7_rowFault_46 flX7_350 (hS 0 _ rfl) rfl ?_
        refine A_iload_n dX7_rowFault_49 rfl rfl ?_
        refine A_icmp_ge (tgt := 58) dX7_rowFault_50 rfl (fun h_4 => ?_) (fun h_4 => ?_)
        · skip
          refine A_iconst (v := 0) dX7_rowFault_58 (by decide) ?_
          refine A_iret dX7_rowFault_59 rfl (az_pi hP ?_ (rfl))
          (unfold zrf; rw [if_neg (b2i_0.mp h_2), if_neg (b2i_0.mp h_3), if_pos h_4])
        · skip
          refine A_bipush (v := (-2)) dX7_rowFault_53 (by decide) ?_
          refine A_goto (tgt := 59) dX7_rowFault_55 rfl ?_
          refine A_iret dX7_rowFault_59 rfl (az_pi hP ?_ (rfl))
          (unfold zrf; rw [if_neg (b2i_0.mp h_2), if_neg (b2i_0.mp h_3), if_neg h_4])
      · skip
        have h_3' := b2i_n.mp h_3
        refine A_bipush (v := (-4)) dX7_rowFault_37 (by decide) ?_
        refine A_iret dX7_rowFault_39 rfl (az_pi hP ?_ (rfl))
        (unfold zrf; rw [if_neg (b2i_0.mp h_2), if_pos (b2i_n.mp h_3)])
    · skip
      have h_2' := b2i_n.mp h_2
      refine A_bipush (v := (-3)) dX7_rowFault_22 (by decide) ?_
      refine A_iret dX7_rowFault_24 rfl (az_pi hP ?_ (rfl))
      (unfold zrf; rw [if_pos (b2i_n.mp h_2)])
  · skip
    have h_1' := b2i_0.mp h_1
    exact absurd ⟨nI_pos' (by omega), nI_le (b := 7) (by omega) (by decide)⟩ (b2i_0.mp h_1)
set_option maxHeartbeats 600000 in
set_option maxRecDepth 100000 in
theorem c_X7_rowFault_no (l : Launch) (G : az_Gh) (d : Nat) (sh : List az_Sh) (sg : Nat → Nat → Int32) (la : Nat → Nat → Int64) (s n : Int32) (hX : az_at sh 0 lyX) (hs : ¬ (0 ≤ s ∧ s ≤ 7)) : FM l G (d + 2) mX7_rowFault [.ref 0, .int s, .int n] (sh, sg, la) (some (.int (-2))) (sh, sg, la) := by
  refine az_fm knX7_rowFault (Nat.le_of_ble_eq_true rfl) rfl (fun Post hP => ?_)
  show AW l G mX7_rowFault (d + 2) (az_F G Post) 0 0 0 [some (.ref 0), some (.int s), some (.int n)] [] (sh, sg, la)
  refine A_iload_n dX7_rowFault_0 rfl rfl ?_
  refine A_callS (n := 0) dX7_rowFault_1 ksX7_isShelf mlX7_69 rfl (c_X7_isShelf l G d sh sg la s) (by omega) (Nat.le_refl _) (Nat.le_refl _) rfl (Nat.le_of_ble_eq_true rfl) (fun r S1 hp => ?_)
  obtain ⟨rfl, rfl⟩ := hp
  show AW l G mX7_rowFault (d + 2) (az_F G Post) 0 0 4 [some (.ref 0), some (.int s), some (.int n)] [.int (b2i (0 ≤ s ∧ s ≤ 7))] (sh, sg, la)
  refine A_if_ne (tgt := 10) dX7_rowFault_4 rfl (fun h_1 => ?_) (fun h_1 => ?_)
  · skip
    have h_1' := b2i_n.mp h_1
    exact absurd (b2i_n.mp h_1) hs
  · skip
    have h_1' := b2i_0.mp h_1
    refine A_bipush (v := (-2)) dX7_rowFault_7 (by decide) ?_
    refine A_iret dX7_rowFault_9 rfl (az_pi hP ?_ (rfl))
    rfl
