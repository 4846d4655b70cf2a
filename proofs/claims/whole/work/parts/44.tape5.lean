theorem zTp_i (sg : Nat → Nat → Int32) (o : Nat) (x : Int32) : az_w sg o 4 x = zTp sg o (sg o 2) (sg o 3) x := by unfold zTp; rw [az_w_id, az_w_id]
theorem cOk_settle {c : CT} (h : cOk c) (h7 : cN c < 8) (k a p : Int32) : cOk (zsettle c k a p) ∧ cN (zsettle c k a p) = cN c + 1 := by
  have h1 : cPp (zsettle c k a p) = nI (cN c + 1) := by
    show cPp c + 1 = _
    rw [h.1]; exact nI_1 _
  have h2 : cN (zsettle c k a p) = cN c + 1 := by
    show (cPp (zsettle c k a p)).toNatClampNeg = _
    rw [h1, nI_clamp (by omega)]
  exact ⟨⟨by rw [h1, h2], by rw [h2]; omega⟩, h2⟩
theorem cOk_per {T : Nat → Int32} {m e : Nat} {c : CT} (h : cOk c) (h7 : cN c < 8) : cOk (zper T m e c).2.2 := by
  by_cases q1 : znum T m e 5 = -1
  · rw [zper_1 q1]; exact h
  · by_cases q2 : znum T m (znx T m e) 9 = -1
    · rw [zper_2 q1 q2]; exact h
    · by_cases q3 : znum T m (znx T m (znx T m e)) 20 = -1
      · rw [zper_3 q1 q2 q3]; exact h
      · rw [zper_4 q1 q2 q3]; exact (cOk_settle h h7 _ _ _).1
theorem cOk_set {c : CT} (h : cOk c) (w : Nat) (v : Int32) : cOk (zset c w v) := by
  unfold zset
  split
  · exact h
  · split
    · exact h
    · split
      · exact h
      · exact h
theorem cOk_chg {T : Nat → Int32} {m e : Nat} {c : CT} {w : Nat} (h : cOk c) : cOk (zchg T m e c w).2.2 := by
  unfold zchg
  by_cases q : znum T m (znx T m e) (zmt w) = -1
  · rw [if_pos q]; exact h
  · rw [if_neg q]; exact cOk_set h _ _
theorem cOk_stm {T : Nat → Int32} {m e : Nat} {c : CT} (h : cOk c) : cOk (zstm T m e c).2.2 := by
  unfold zstm
  by_cases w0 : zwk T m e 0 = true
  · rw [if_pos w0]
    by_cases h7 : cN c < 8
    · rw [if_pos h7]; exact cOk_per h h7
    · rw [if_neg h7]; exact h
  · rw [if_neg w0]
    by_cases w1 : zwk T m e 1 = true
    · rw [if_pos w1]; exact h
    · rw [if_neg w1]
      by_cases w2 : zwk T m e 2 = true
      · rw [if_pos w2]; exact h
      · rw [if_neg w2]
        by_cases w3 : zwk T m e 3 = true
        · rw [if_pos w3]; exact cOk_chg h
        · rw [if_neg w3]
          by_cases w4 : zwk T m e 4 = true
          · rw [if_pos w4]; exact cOk_chg h
          · rw [if_neg w4]
            by_cases w5 : zwk T m e 5 = true
            · rw [if_pos w5]; exact cOk_chg h
            · rw [if_neg w5]
              by_cases w6 : zwk T m e 6 = true
              · rw [if_pos w6]; exact cOk_chg h
              · rw [if_neg w6]; exact h
set_option maxHeartbeats 600000 in
set_option maxRecDepth 100000 in
theorem c_X5_readInto (l : Launch) (G : az_Gh) (d : Nat) (sh : List az_Sh) (sg : Nat → Nat → Int32) (la : Nat → Nat → Int64) (o m n0 : Nat) (c : CT) (hT : az_at sh o (lyP o)) (hm : sg o 1 = nI m) (hm2 : m ≤ 250) (hC : az_at sh n0 (lyC n0)) (ho : o + 1 < n0 ∨ n0 + 6 ≤ o) (hO : cOk c) : AM l G (d + 6) mX5_readInto [.ref o, .ref n0] (sh, zput sg n0 c, la) 0 0 (fun r1 S1 => r1 = some (.int (zrd (sg (o + 1)) m 250 1 0 c).1) ∧ ∃ t9 s9 e9, S1 = (sh, zput (zTp sg o t9 s9 e9) n0 (zrd (sg (o + 1)) m 250 1 0 c).2, la)) := by
  refine az_am knX5_readInto (Nat.le_of_ble_eq_true rfl) rfl (fun Post hP => ?_)
  show AW l G mX5_readInto (d + 6) (az_F G Post) 0 0 0 [some (.ref o), some (.ref n0), none] [] (sh, (zput sg n0 c), la)
  refine A_aload_n dX5_readInto_0 rfl rfl ?_
  refine A_iconst (v := 0) dX5_readInto_1 (by decide) ?_
  refine B_putI dX5_readInto_2 fwX5_25 (hT 0 _ rfl) rfl ?_
  refine B_sg (show _ = (zput (zTp sg o (sg o 2) (sg o 3) (nI 0)) n0 c) from (zw_out (by omega)).trans (congrArg (fun z => zput z n0 c) (zTp_i sg o 0))) ?_
  refine A_iconst (v := 1) dX5_readInto_5 (by decide) ?_
  refine A_istore_n (lo2 := [some (.ref o), some (.ref n0), some (.int 1)]) dX5_readInto_6 rfl (by decide) rfl ?_
  have loop : ∀ (q_i9 i9 : Nat) (t1 : Int32) (s1 : Int32) (e1 : Nat) (c1 : CT), i9 + q_i9 = 251 → e1 ≤ m → cOk c1 → 2 * i9 ≤ e1 + 2 → zrd (sg (o + 1)) m (251 - i9) i9 e1 c1 = zrd (sg (o + 1)) m 250 1 0 c → AW l G mX5_readInto (d + 6) (az_F G Post) 0 0 7 [some (.ref o), some (.ref n0), some (.int (nI i9))] [] (sh, (zput (zTp sg o t1 s1 (nI e1)) n0 c1), la) := by
    intro q_i9
    induction q_i9 with
    | zero =>
      intro i9 t1 s1 e1 c1 hi_i9 he1 hO1 h2i hz 
      have hN_i9 : i9 = 251 := by omega
      subst i9
      exfalso; omega
    | succ q_i9 ih =>
      intro i9 t1 s1 e1 c1 hi_i9 he1 hO1 h2i hz 
      refine A_iload_n dX5_readInto_7 rfl rfl ?_
      refine A_sipush (v := 250) dX5_readInto_8 (by decide) ?_
      refine A_icmp_gt (tgt := 59) dX5_readInto_11 rfl (fun h_1 => ?_) (fun h_1 => ?_)
      · skip
        exact absurd h_1 (nI_nlt (b := i9) (a := 250) (by omega) (by decide))
      · skip
        rw [show 251 - i9 = (250 - i9) + 1 by omega] at hz
        refine A_aload_n dX5_readInto_14 rfl rfl ?_
        refine A_callV (n := 0) dX5_readInto_15 kvX5_step mlX5_32 rfl (az_rc_obj clX5 (hT 0 _ rfl)) (p_X5_step l G (d + 4) sh sg la o m e1 t1 s1 n0 c1 hT hm hm2 he1 ho) (by omega) (Nat.le_refl _) (Nat.le_refl _) rfl (Nat.le_of_ble_eq_true rfl) (fun r S1 hp => ?_)
        obtain ⟨rfl, rfl⟩ := hp
        show AW l G mX5_readInto (d + 6) (az_F G Post) 0 0 18 [some (.ref o), some (.ref n0), some (.int (nI i9))] [] (sh, (zput (zTs sg o (sg (o + 1)) m e1) n0 c1), la)
        refine A_aload_n dX5_readInto_18 rfl rfl ?_
        refine A_aload_n dX5_readInto_19 rfl rfl ?_
        refine A_callV (n := 0) dX5_readInto_20 kvX5_readStatement mlX5_35 rfl (az_rc_obj clX5 (hT 0 _ rfl)) (c_X5_readStatement l G d sh sg la o m e1 n0 c1 hT hm hm2 he1 hC ho hO1) (by omega) (Nat.le_refl _) (Nat.le_refl _) rfl (Nat.le_of_ble_eq_true rfl) (fun r S1 hp => ?_)
        obtain ⟨rfl, rfl⟩ := hp
        show AW l G mX5_readInto (d + 6) (az_F G Post) 0 0 23 [some (.ref o), some (.ref n0), some (.int (nI i9))] [.int (b2i ((zstm (sg (o + 1)) m e1 c1).1 = true))] (sh, (zput (zTs sg o (sg (o + 1)) m (zstm (sg (o + 1)) m e1 c1).2.1) n0 (zstm (sg (o + 1)) m e1 c1).2.2), la)
        have hel := zstm_el (T := (sg (o + 1))) (c := c1) he1
        have hle2 := znx_le (T := (sg (o + 1))) hel.1
        refine A_if_ne (tgt := 29) dX5_readInto_23 rfl (fun h_2 => ?_) (fun h_2 => ?_)
        · skip
          have h_2' := b2i_n.mp h_2
          have hgo := hel.2 (b2i_n.mp h_2)
          refine A_aload_n dX5_readInto_29 rfl rfl ?_
          refine A_callV (n := 0) dX5_readInto_30 kvX5_step mlX5_32 rfl (az_rc_obj clX5 (hT 0 _ rfl)) (p_X5_step l G (d + 4) sh sg la o m (znx (sg (o + 1)) m (zstm (sg (o + 1)) m e1 c1).2.1) (zst3 (sg (o + 1)) m (zstm (sg (o + 1)) m e1 c1).2.1).1 (nI (zss (sg (o + 1)) m (zstm (sg (o + 1)) m e1 c1).2.1)) n0 (zstm (sg (o + 1)) m e1 c1).2.2 hT hm hm2 hle2 ho) (by omega) (Nat.le_refl _) (Nat.le_refl _) rfl (Nat.le_of_ble_eq_true rfl) (fun r S1 hp => ?_)
          obtain ⟨rfl, rfl⟩ := hp
          show AW l G mX5_readInto (d + 6) (az_F G Post) 0 0 33 [some (.ref o), some (.ref n0), some (.int (nI i9))] [] (sh, (zput (zTs sg o (sg (o + 1)) m (znx (sg (o + 1)) m (zstm (sg (o + 1)) m e1 c1).2.1)) n0 (zstm (sg (o + 1)) m e1 c1).2.2), la)
          refine A_aload_n dX5_readInto_33 rfl rfl ?_
          refine B_getV ((zst3 (sg (o + 1)) m (znx (sg (o + 1)) m (zstm (sg (o + 1)) m e1 c1).2.1)).1) dX5_readInto_34 flX5_19 (hT 0 _ rfl) rfl ((congrFun (zput_ne (by omega)) 2).trans (zTp_2 _ _ _ _ _)) ?_
          refine A_if_ne (tgt := 42) dX5_readInto_37 rfl (fun h_3 => ?_) (fun h_3 => ?_)
          · skip
            refine A_aload_n dX5_readInto_42 rfl rfl ?_
            refine B_getV ((zst3 (sg (o + 1)) m (znx (sg (o + 1)) m (zstm (sg (o + 1)) m e1 c1).2.1)).1) dX5_readInto_43 flX5_19 (hT 0 _ rfl) rfl ((congrFun (zput_ne (by omega)) 2).trans (zTp_2 _ _ _ _ _)) ?_
            refine A_iconst (v := 3) dX5_readInto_46 (by decide) ?_
            refine A_icmp_eq (tgt := 53) dX5_readInto_47 rfl (fun h_4 => ?_) (fun h_4 => ?_)
            · skip
              have hsg := zst3_sg hle2 h_4
              refine B_sg (show _ = (zput (zTp sg o (zst3 (sg (o + 1)) m (znx (sg (o + 1)) m (zstm (sg (o + 1)) m e1 c1).2.1)).1 (nI (zss (sg (o + 1)) m (znx (sg (o + 1)) m (zstm (sg (o + 1)) m e1 c1).2.1))) (nI (znx (sg (o + 1)) m (znx (sg (o + 1)) m (zstm (sg (o + 1)) m e1 c1).2.1)))) n0 (zstm (sg (o + 1)) m e1 c1).2.2) from rfl) ?_
              refine A_iinc (v := nI (i9 + 1)) (lo2 := [some (.ref o), some (.ref n0), some (.int (nI (i9 + 1)))]) dX5_readInto_53 rfl (nI_1 i9) (by decide) rfl ?_
              refine A_goto (tgt := 7) dX5_readInto_56 rfl ?_
              refine ih (i9 + 1) _ _ _ _ (by omega) (znx_le hle2) (cOk_stm hO1) (by omega) (by rw [show 251 - (i9 + 1) = 250 - i9 by omega]; exact (zrd_4 (b2i_n.mp h_2) h_3 h_4).symm.trans hz)
            · skip
              refine A_goto (tgt := 59) dX5_readInto_50 rfl ?_
              refine A_bipush (v := (-20)) dX5_readInto_59 (by decide) ?_
              refine A_aload_n dX5_readInto_61 rfl rfl ?_
              refine B_getV (nI (zss (sg (o + 1)) m (znx (sg (o + 1)) m (zstm (sg (o + 1)) m e1 c1).2.1))) dX5_readInto_62 flX5_22 (hT 0 _ rfl) rfl ((congrFun (zput_ne (by omega)) 3).trans (zTp_3 _ _ _ _ _)) ?_
              refine A_isub dX5_readInto_65 ?_
              refine A_iret dX5_readInto_66 rfl (hP _ _ ⟨congrArg (fun z => some (Value.int z)) ?_, _, _, _, congrArg (fun z => (sh, z, la)) (congrArg (zput _ n0) ?_)⟩)
              · rw [← hz, zrd_3 (b2i_n.mp h_2) h_3 h_4]
              · rw [← hz, zrd_3 (b2i_n.mp h_2) h_3 h_4]
          · skip
            refine A_iload_n dX5_readInto_40 rfl rfl ?_
            refine A_iret dX5_readInto_41 rfl (hP _ _ ⟨congrArg (fun z => some (Value.int z)) ?_, _, _, _, congrArg (fun z => (sh, z, la)) (congrArg (zput _ n0) ?_)⟩)
            · rw [← hz, zrd_2 (b2i_n.mp h_2) h_3]
            · rw [← hz, zrd_2 (b2i_n.mp h_2) h_3]
        · skip
          have h_2' := b2i_0.mp h_2
          refine A_goto (tgt := 59) dX5_readInto_26 rfl ?_
          refine A_bipush (v := (-20)) dX5_readInto_59 (by decide) ?_
          refine A_aload_n dX5_readInto_61 rfl rfl ?_
          refine B_getV (nI (zss (sg (o + 1)) m ((zstm (sg (o + 1)) m e1 c1).2.1))) dX5_readInto_62 flX5_22 (hT 0 _ rfl) rfl ((congrFun (zput_ne (by omega)) 3).trans (zTp_3 _ _ _ _ _)) ?_
          refine A_isub dX5_readInto_65 ?_
          refine A_iret dX5_readInto_66 rfl (hP _ _ ⟨congrArg (fun z => some (Value.int z)) ?_, _, _, _, congrArg (fun z => (sh, z, la)) (congrArg (zput _ n0) ?_)⟩)
          · rw [← hz, zrd_1 (b2i_0.mp h_2)]
          · rw [← hz, zrd_1 (b2i_0.mp h_2)]
  exact loop ((251) - (1)) 1 _ _ _ _ (by omega) (Nat.zero_le _) hO (by omega) rfl
