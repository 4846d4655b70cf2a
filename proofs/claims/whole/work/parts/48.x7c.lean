set_option maxHeartbeats 600000 in
set_option maxRecDepth 100000 in
theorem c_X7_refuse (l : Launch) (G : az_Gh) (d : Nat) (sh : List az_Sh) (sg : Nat → Nat → Int32) (la : Nat → Nat → Int64) (f : Int32) (k : Nat) (hX : az_at sh 0 lyX) (hk : k < 5) (hf : -2 - f = nI k) : FM l G (d + 1) mX7_refuse [.ref 0, .int f] (sh, sg, la) (some (.int f)) (sh, az_w sg 43 k (sg 43 k + 1), la) := by
  refine az_fm knX7_refuse (Nat.le_of_ble_eq_true rfl) rfl (fun Post hP => ?_)
  show AW l G mX7_refuse (d + 1) (az_F G Post) 0 0 0 [some (.ref 0), some (.int f), none] [] (sh, sg, la)
  refine A_bipush (v := (-2)) dX7_refuse_0 (by decide) ?_
  refine A_iload_n dX7_refuse_2 rfl rfl ?_
  refine A_isub dX7_refuse_3 ?_
  refine B_top hf ?_
  refine A_istore_n (lo2 := [some (.ref 0), some (.int f), some (.int (nI k))]) dX7_refuse_4 rfl (by decide) rfl ?_
  refine A_iload_n dX7_refuse_5 rfl rfl ?_
  refine A_iconst (v := 4) dX7_refuse_6 (by decide) ?_
  refine A_callS (n := 0) dX7_refuse_7 ksX7_isWithin mlX7_73 rfl (c_X7_isWithin l G d sh sg la (nI k) 4) (by omega) (Nat.le_refl _) (Nat.le_refl _) rfl (Nat.le_of_ble_eq_true rfl) (fun r S1 hp => ?_)
  obtain ⟨rfl, rfl⟩ := hp
  show AW l G mX7_refuse (d + 1) (az_F G Post) 0 0 10 [some (.ref 0), some (.int f), some (.int (nI k))] [.int (b2i (0 ≤ nI k ∧ nI k ≤ 4))] (sh, sg, la)
  refine A_if_eq (tgt := 23) dX7_refuse_10 rfl (fun h_1 => ?_) (fun h_1 => ?_)
  · skip
    have h_1' := b2i_0.mp h_1
    exact absurd ⟨nI_pos' (by omega), nI_le (b := 4) (by omega) (by decide)⟩ (b2i_0.mp h_1)
  · skip
    have h_1' := b2i_n.mp h_1
    refine A_aload_n dX7_refuse_13 rfl rfl ?_
    refine B_getR (r := 43) dX7_refuse_14 flX7_60 (hX 0 _ rfl) rfl ?_
    refine A_iload_n dX7_refuse_17 rfl rfl ?_
    refine A_dup2 dX7_refuse_18 rfl rfl ?_
    refine B_iald (i := k) dX7_refuse_19 (hX 43 _ rfl) (by decide) (rfl) (by omega) ?_
    refine A_iconst (v := 1) dX7_refuse_20 (by decide) ?_
    refine A_iadd dX7_refuse_21 ?_
    refine B_iast (i := k) dX7_refuse_22 (hX 43 _ rfl) (by decide) (rfl) (by omega) ?_
    refine A_iload_n dX7_refuse_23 rfl rfl ?_
    refine A_iret dX7_refuse_24 rfl (az_pi hP ?_ (rfl))
    rfl
