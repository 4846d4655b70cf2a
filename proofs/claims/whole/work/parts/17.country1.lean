set_option maxHeartbeats 600000 in
set_option maxRecDepth 100000 in
theorem c_X2_hasOne (l : Launch) (G : az_Gh) (d : Nat) (sh : List az_Sh) (sg : Nat → Nat → Int32) (la : Nat → Nat → Int64) (o : Nat) (i : Int32) (hC : az_at sh o (lyC o)) : FM l G (d) mX2_hasOne [.ref o, .int i] (sh, sg, la) (some (.int (b2i (0 ≤ i ∧ i < sg o 5)))) (sh, sg, la) := by
  refine az_fm knX2_hasOne (Nat.le_of_ble_eq_true rfl) rfl (fun Post hP => ?_)
  show AW l G mX2_hasOne (d) (az_F G Post) 0 0 0 [some (.ref o), some (.int i)] [] (sh, sg, la)
  refine A_iload_n dX2_hasOne_0 rfl rfl ?_
  refine A_if_lt (tgt := 16) dX2_hasOne_1 rfl (fun h_1 => ?_) (fun h_1 => ?_)
  · skip
    refine A_iconst (v := 0) dX2_hasOne_16 (by decide) ?_
    refine A_zret dX2_hasOne_17 rfl (rfl) (az_pi hP ?_ (rfl))
    first | (refine b2i_t ⟨?_, ?_⟩ <;> simp_all [Int32.not_lt, Int32.not_le]; done) | (refine b2i_f (fun h => ?_); simp_all [← Int32.not_lt, ← Int32.not_le]; done)
  · skip
    refine A_iload_n dX2_hasOne_4 rfl rfl ?_
    refine A_aload_n dX2_hasOne_5 rfl rfl ?_
    refine B_getI dX2_hasOne_6 flX2_27 (hC 0 _ rfl) rfl ?_
    refine A_icmp_ge (tgt := 16) dX2_hasOne_9 rfl (fun h_2 => ?_) (fun h_2 => ?_)
    · skip
      refine A_iconst (v := 0) dX2_hasOne_16 (by decide) ?_
      refine A_zret dX2_hasOne_17 rfl (rfl) (az_pi hP ?_ (rfl))
      first | (refine b2i_t ⟨?_, ?_⟩ <;> simp_all [Int32.not_lt, Int32.not_le]; done) | (refine b2i_f (fun h => ?_); simp_all [← Int32.not_lt, ← Int32.not_le]; done)
    · skip
      refine A_iconst (v := 1) dX2_hasOne_12 (by decide) ?_
      refine A_goto (tgt := 17) dX2_hasOne_13 rfl ?_
      refine A_zret dX2_hasOne_17 rfl (rfl) (az_pi hP ?_ (rfl))
      first | (refine b2i_t ⟨?_, ?_⟩ <;> simp_all [Int32.not_lt, Int32.not_le]; done) | (refine b2i_f (fun h => ?_); simp_all [← Int32.not_lt, ← Int32.not_le]; done)
set_option maxHeartbeats 600000 in
set_option maxRecDepth 100000 in
theorem c_X2_isFull (l : Launch) (G : az_Gh) (d : Nat) (sh : List az_Sh) (sg : Nat → Nat → Int32) (la : Nat → Nat → Int64) (o : Nat) (hC : az_at sh o (lyC o)) : FM l G (d) mX2_isFull [.ref o] (sh, sg, la) (some (.int (b2i (8 ≤ sg o 5)))) (sh, sg, la) := by
  refine az_fm knX2_isFull (Nat.le_of_ble_eq_true rfl) rfl (fun Post hP => ?_)
  show AW l G mX2_isFull (d) (az_F G Post) 0 0 0 [some (.ref o)] [] (sh, sg, la)
  refine A_aload_n dX2_isFull_0 rfl rfl ?_
  refine B_getI dX2_isFull_1 flX2_27 (hC 0 _ rfl) rfl ?_
  refine A_bipush (v := 8) dX2_isFull_4 (by decide) ?_
  refine A_icmp_lt (tgt := 13) dX2_isFull_6 rfl (fun h_1 => ?_) (fun h_1 => ?_)
  · skip
    refine A_iconst (v := 0) dX2_isFull_13 (by decide) ?_
    refine A_zret dX2_isFull_14 rfl (rfl) (az_pi hP ?_ (rfl))
    first | (refine b2i_t ?_; exact Int32.not_lt.mp h_1; done) | (refine b2i_f (fun h => ?_); exact absurd h (Int32.not_le.mpr h_1))
  · skip
    refine A_iconst (v := 1) dX2_isFull_9 (by decide) ?_
    refine A_goto (tgt := 14) dX2_isFull_10 rfl ?_
    refine A_zret dX2_isFull_14 rfl (rfl) (az_pi hP ?_ (rfl))
    first | (refine b2i_t ?_; exact Int32.not_lt.mp h_1; done) | (refine b2i_f (fun h => ?_); exact absurd h (Int32.not_le.mpr h_1))
theorem c_X2_hasOne_in (l : Launch) (G : az_Gh) (d : Nat) (sh : List az_Sh) (sg : Nat → Nat → Int32) (la : Nat → Nat → Int64) (o p : Nat) (hC : az_at sh o (lyC o)) (hO : cOk (ct sg o)) (hp : p < cN (ct sg o)) : FM l G d mX2_hasOne [.ref o, .int (nI p)] (sh, sg, la) (some (.int 1)) (sh, sg, la) := by
  have h := c_X2_hasOne l G d sh sg la o (nI p) hC
  have h5 : sg o 5 = nI (cN (ct sg o)) := hO.1
  have h8 := hO.2
  rw [← b2i_t ⟨nI_pos' (by omega), by rw [h5]; exact nI_lt hp (by omega)⟩] at h
  exact h
theorem c_X2_hasOne_m1 (l : Launch) (G : az_Gh) (d : Nat) (sh : List az_Sh) (sg : Nat → Nat → Int32) (la : Nat → Nat → Int64) (o : Nat) (hC : az_at sh o (lyC o)) : FM l G d mX2_hasOne [.ref o, .int (-1)] (sh, sg, la) (some (.int 0)) (sh, sg, la) := by
  have h := c_X2_hasOne l G d sh sg la o (-1) hC
  rw [← b2i_f (fun q => absurd q.1 (by decide))] at h
  exact h
set_option maxHeartbeats 600000 in
set_option maxRecDepth 100000 in
theorem c_X2_coldAs (l : Launch) (G : az_Gh) (d : Nat) (sh : List az_Sh) (sg : Nat → Nat → Int32) (la : Nat → Nat → Int64) (o p : Nat) (t : Int32) (hC : az_at sh o (lyC o)) (hO : cOk (ct sg o)) (hp : p < cN (ct sg o)) : FM l G (d + 1) mX2_coldAs [.ref o, .int t, .int (nI p)] (sh, sg, la) (some (.int (zcT t (ct sg o) p))) (sh, sg, la) := by
  refine az_fm knX2_coldAs (Nat.le_of_ble_eq_true rfl) rfl (fun Post hP => ?_)
  show AW l G mX2_coldAs (d + 1) (az_F G Post) 0 0 0 [some (.ref o), some (.int t), some (.int (nI p)), none, none] [] (sh, sg, la)
  have h8 := hO.2
  refine A_aload_n dX2_coldAs_0 rfl rfl ?_
  refine A_iload_n dX2_coldAs_1 rfl rfl ?_
  refine A_callV (n := 0) dX2_coldAs_2 kvX2_hasOne mlX2_69 rfl (az_rc_obj clX2 (hC 0 _ rfl)) (c_X2_hasOne_in l G d sh sg la o p hC hO (by omega)) (by omega) (Nat.le_refl _) (Nat.le_refl _) rfl (Nat.le_of_ble_eq_true rfl) (fun r S1 hp => ?_)
  obtain ⟨rfl, rfl⟩ := hp
  show AW l G mX2_coldAs (d + 1) (az_F G Post) 0 0 5 [some (.ref o), some (.int t), some (.int (nI p)), none, none] [.int 1] (sh, sg, la)
  refine A_if_ne (tgt := 10) dX2_coldAs_5 rfl (fun h_1 => ?_) (fun h_1 => ?_)
  · skip
    refine A_iconst (v := 0) dX2_coldAs_10 (by decide) ?_
    refine A_bipush (v := 40) dX2_coldAs_11 (by decide) ?_
    refine A_aload_n dX2_coldAs_13 rfl rfl ?_
    refine B_getI dX2_coldAs_14 flX2_31 (hC 0 _ rfl) rfl ?_
    refine A_isub dX2_coldAs_17 ?_
    refine A_aload_n dX2_coldAs_18 rfl rfl ?_
    refine B_getR (r := (o + 5)) dX2_coldAs_19 flX2_24 (hC 0 _ rfl) rfl ?_
    refine A_iload_n dX2_coldAs_22 rfl rfl ?_
    refine B_iald (i := p) dX2_coldAs_23 (hC 5 _ rfl) (by decide) (rfl) (by omega) ?_
    refine A_isub dX2_coldAs_24 ?_
    refine A_mx0 dX2_coldAs_25 mlX2_73 (by omega) (Nat.le_of_ble_eq_true rfl) ?_
    refine A_istore_n (lo2 := [some (.ref o), some (.int t), some (.int (nI p)), some (.int (mx0 ((40 - sg o 6) - sg (o + 5) p))), none]) dX2_coldAs_28 rfl (by decide) rfl ?_
    refine A_aload_n dX2_coldAs_29 rfl rfl ?_
    refine B_getI dX2_coldAs_30 flX2_49 (hC 0 _ rfl) rfl ?_
    refine A_aload_n dX2_coldAs_33 rfl rfl ?_
    refine B_getR (r := (o + 1)) dX2_coldAs_34 flX2_9 (hC 0 _ rfl) rfl ?_
    refine A_iload_n dX2_coldAs_37 rfl rfl ?_
    refine B_iald (i := p) dX2_coldAs_38 (hC 1 _ rfl) (by decide) (rfl) (by omega) ?_
    refine A_iconst (v := 4) dX2_coldAs_39 (by decide) ?_
    refine A_icmp_ne (tgt := 47) dX2_coldAs_40 rfl (fun h_2 => ?_) (fun h_2 => ?_)
    · skip
      refine A_iconst (v := 0) dX2_coldAs_47 (by decide) ?_
      refine A_icmp_le (tgt := 55) dX2_coldAs_48 rfl (fun h_3 => ?_) (fun h_3 => ?_)
      · skip
        refine A_iconst (v := 0) dX2_coldAs_55 (by decide) ?_
        refine A_istore (lo2 := [some (.ref o), some (.int t), some (.int (nI p)), some (.int (mx0 ((40 - sg o 6) - sg (o + 5) p))), some (.int 0)]) dX2_coldAs_56 (by decide) rfl ?_
        refine A_iload_n dX2_coldAs_58 rfl rfl ?_
        rcases az_sw15 (t) with hw | hw | hw | hw | hw | hw
        · skip
          refine A_tableIn (off := 33) (tgt := 92) dX2_coldAs_59 (by rw [hw]; decide) (by rw [hw]; decide) (by rw [hw]; rfl) rfl ?_
          refine A_iconst (v := 0) dX2_coldAs_92 (by decide) ?_
          refine A_iload_n dX2_coldAs_93 rfl rfl ?_
          refine A_aload_n dX2_coldAs_94 rfl rfl ?_
          refine B_getR (r := (o + 2)) dX2_coldAs_95 flX2_15 (hC 0 _ rfl) rfl ?_
          refine A_iload_n dX2_coldAs_98 rfl rfl ?_
          refine B_iald (i := p) dX2_coldAs_99 (hC 2 _ rfl) (by decide) (rfl) (by omega) ?_
          refine A_isub dX2_coldAs_100 ?_
          refine A_mx0 dX2_coldAs_101 mlX2_73 (by omega) (Nat.le_of_ble_eq_true rfl) ?_
          refine A_iret dX2_coldAs_104 rfl (az_pi hP ?_ (rfl))
          rw [hw]; exact (zcold_1 _ _ _ _ _).symm
        · skip
          refine A_tableIn (off := 72) (tgt := 131) dX2_coldAs_59 (by rw [hw]; decide) (by rw [hw]; decide) (by rw [hw]; rfl) rfl ?_
          refine A_iload_n dX2_coldAs_131 rfl rfl ?_
          refine A_aload_n dX2_coldAs_132 rfl rfl ?_
          refine B_getR (r := (o + 2)) dX2_coldAs_133 flX2_15 (hC 0 _ rfl) rfl ?_
          refine A_iload_n dX2_coldAs_136 rfl rfl ?_
          refine B_iald (i := p) dX2_coldAs_137 (hC 2 _ rfl) (by decide) (rfl) (by omega) ?_
          refine A_iadd dX2_coldAs_138 ?_
          refine A_iret dX2_coldAs_139 rfl (az_pi hP ?_ (rfl))
          rw [hw]; exact (zcold_2 _ _ _ _ _).symm
        · skip
          refine A_tableIn (off := 46) (tgt := 105) dX2_coldAs_59 (by rw [hw]; decide) (by rw [hw]; decide) (by rw [hw]; rfl) rfl ?_
          refine A_iconst (v := 0) dX2_coldAs_105 (by decide) ?_
          refine A_iconst (v := 0) dX2_coldAs_106 (by decide) ?_
          refine A_iload_n dX2_coldAs_107 rfl rfl ?_
          refine A_aload_n dX2_coldAs_108 rfl rfl ?_
          refine B_getR (r := (o + 2)) dX2_coldAs_109 flX2_15 (hC 0 _ rfl) rfl ?_
          refine A_iload_n dX2_coldAs_112 rfl rfl ?_
          refine B_iald (i := p) dX2_coldAs_113 (hC 2 _ rfl) (by decide) (rfl) (by omega) ?_
          refine A_isub dX2_coldAs_114 ?_
          refine A_mx0 dX2_coldAs_115 mlX2_73 (by omega) (Nat.le_of_ble_eq_true rfl) ?_
          refine A_iconst (v := 2) dX2_coldAs_118 (by decide) ?_
          refine A_aload_n dX2_coldAs_119 rfl rfl ?_
          refine B_getR (r := (o + 4)) dX2_coldAs_120 flX2_21 (hC 0 _ rfl) rfl ?_
          refine A_iload_n dX2_coldAs_123 rfl rfl ?_
          refine B_iald (i := p) dX2_coldAs_124 (hC 4 _ rfl) (by decide) (rfl) (by omega) ?_
          refine A_imul dX2_coldAs_125 ?_
          refine A_isub dX2_coldAs_126 ?_
          refine A_mx0 dX2_coldAs_127 mlX2_73 (by omega) (Nat.le_of_ble_eq_true rfl) ?_
          refine A_iret dX2_coldAs_130 rfl (az_pi hP ?_ (rfl))
          rw [hw]; exact (zcold_3 _ _ _ _ _).symm
        · skip
          refine A_tableIn (off := 81) (tgt := 140) dX2_coldAs_59 (by rw [hw]; decide) (by rw [hw]; decide) (by rw [hw]; rfl) rfl ?_
          refine A_iload dX2_coldAs_140 rfl ?_
          refine A_if_eq (tgt := 163) dX2_coldAs_142 rfl (fun h_4 => ?_) (fun h_4 => ?_)
          · skip
            refine A_iload_n dX2_coldAs_163 rfl rfl ?_
            refine A_aload_n dX2_coldAs_164 rfl rfl ?_
            refine B_getR (r := (o + 2)) dX2_coldAs_165 flX2_15 (hC 0 _ rfl) rfl ?_
            refine A_iload_n dX2_coldAs_168 rfl rfl ?_
            refine B_iald (i := p) dX2_coldAs_169 (hC 2 _ rfl) (by decide) (rfl) (by omega) ?_
            refine A_iadd dX2_coldAs_170 ?_
            refine A_iret dX2_coldAs_171 rfl (az_pi hP ?_ (rfl))
            rw [hw]; exact ((zcold_4 _ _ _ _ _).trans (if_neg (fun q => absurd (of_decide_eq_true q) (by show ¬ (if sg (o + 1) p = 4 then (1 : Int32) else 0) < sg o 12; rw [if_neg h_2]; exact Int32.not_lt.mpr h_3)))).symm
          · skip
            exact absurd (by decide) h_4
        · skip
          refine A_tableIn (off := 113) (tgt := 172) dX2_coldAs_59 (by rw [hw]; decide) (by rw [hw]; decide) (by rw [hw]; rfl) rfl ?_
          refine A_iload_n dX2_coldAs_172 rfl rfl ?_
          refine A_iconst (v := 5) dX2_coldAs_173 (by decide) ?_
          refine A_iadd dX2_coldAs_174 ?_
          refine A_iret dX2_coldAs_175 rfl (az_pi hP ?_ (rfl))
          rw [hw]; exact (zcold_5 _ _ _ _ _).symm
        · skip
          refine A_tableOut (tgt := 176) dX2_coldAs_59 hw rfl ?_
          refine A_iload_n dX2_coldAs_176 rfl rfl ?_
          refine A_iret dX2_coldAs_177 rfl (az_pi hP ?_ (rfl))
          (unfold zcT zcold; rw [if_neg (az_ne hw 1 (by decide) (by decide)), if_neg (az_ne hw 2 (by decide) (by decide)), if_neg (az_ne hw 3 (by decide) (by decide)), if_neg (az_ne hw 4 (by decide) (by decide)), if_neg (az_ne hw 5 (by decide) (by decide))]; rfl)
      · skip
        refine A_iconst (v := 1) dX2_coldAs_51 (by decide) ?_
        refine A_goto (tgt := 56) dX2_coldAs_52 rfl ?_
        refine A_istore (lo2 := [some (.ref o), some (.int t), some (.int (nI p)), some (.int (mx0 ((40 - sg o 6) - sg (o + 5) p))), some (.int 1)]) dX2_coldAs_56 (by decide) rfl ?_
        refine A_iload_n dX2_coldAs_58 rfl rfl ?_
        rcases az_sw15 (t) with hw | hw | hw | hw | hw | hw
        · skip
          refine A_tableIn (off := 33) (tgt := 92) dX2_coldAs_59 (by rw [hw]; decide) (by rw [hw]; decide) (by rw [hw]; rfl) rfl ?_
          refine A_iconst (v := 0) dX2_coldAs_92 (by decide) ?_
          refine A_iload_n dX2_coldAs_93 rfl rfl ?_
          refine A_aload_n dX2_coldAs_94 rfl rfl ?_
          refine B_getR (r := (o + 2)) dX2_coldAs_95 flX2_15 (hC 0 _ rfl) rfl ?_
          refine A_iload_n dX2_coldAs_98 rfl rfl ?_
          refine B_iald (i := p) dX2_coldAs_99 (hC 2 _ rfl) (by decide) (rfl) (by omega) ?_
          refine A_isub dX2_coldAs_100 ?_
          refine A_mx0 dX2_coldAs_101 mlX2_73 (by omega) (Nat.le_of_ble_eq_true rfl) ?_
          refine A_iret dX2_coldAs_104 rfl (az_pi hP ?_ (rfl))
          rw [hw]; exact (zcold_1 _ _ _ _ _).symm
        · skip
          refine A_tableIn (off := 72) (tgt := 131) dX2_coldAs_59 (by rw [hw]; decide) (by rw [hw]; decide) (by rw [hw]; rfl) rfl ?_
          refine A_iload_n dX2_coldAs_131 rfl rfl ?_
          refine A_aload_n dX2_coldAs_132 rfl rfl ?_
          refine B_getR (r := (o + 2)) dX2_coldAs_133 flX2_15 (hC 0 _ rfl) rfl ?_
          refine A_iload_n dX2_coldAs_136 rfl rfl ?_
          refine B_iald (i := p) dX2_coldAs_137 (hC 2 _ rfl) (by decide) (rfl) (by omega) ?_
          refine A_iadd dX2_coldAs_138 ?_
          refine A_iret dX2_coldAs_139 rfl (az_pi hP ?_ (rfl))
          rw [hw]; exact (zcold_2 _ _ _ _ _).symm
        · skip
          refine A_tableIn (off := 46) (tgt := 105) dX2_coldAs_59 (by rw [hw]; decide) (by rw [hw]; decide) (by rw [hw]; rfl) rfl ?_
          refine A_iconst (v := 0) dX2_coldAs_105 (by decide) ?_
          refine A_iconst (v := 0) dX2_coldAs_106 (by decide) ?_
          refine A_iload_n dX2_coldAs_107 rfl rfl ?_
          refine A_aload_n dX2_coldAs_108 rfl rfl ?_
          refine B_getR (r := (o + 2)) dX2_coldAs_109 flX2_15 (hC 0 _ rfl) rfl ?_
          refine A_iload_n dX2_coldAs_112 rfl rfl ?_
          refine B_iald (i := p) dX2_coldAs_113 (hC 2 _ rfl) (by decide) (rfl) (by omega) ?_
          refine A_isub dX2_coldAs_114 ?_
          refine A_mx0 dX2_coldAs_115 mlX2_73 (by omega) (Nat.le_of_ble_eq_true rfl) ?_
          refine A_iconst (v := 2) dX2_coldAs_118 (by decide) ?_
          refine A_aload_n dX2_coldAs_119 rfl rfl ?_
          refine B_getR (r := (o + 4)) dX2_coldAs_120 flX2_21 (hC 0 _ rfl) rfl ?_
          refine A_iload_n dX2_coldAs_123 rfl rfl ?_
          refine B_iald (i := p) dX2_coldAs_124 (hC 4 _ rfl) (by decide) (rfl) (by omega) ?_
          refine A_imul dX2_coldAs_125 ?_
          refine A_isub dX2_coldAs_126 ?_
          refine A_mx0 dX2_coldAs_127 mlX2_73 (by omega) (Nat.le_of_ble_eq_true rfl) ?_
          refine A_iret dX2_coldAs_130 rfl (az_pi hP ?_ (rfl))
          rw [hw]; exact (zcold_3 _ _ _ _ _).symm
        · skip
          refine A_tableIn (off := 81) (tgt := 140) dX2_coldAs_59 (by rw [hw]; decide) (by rw [hw]; decide) (by rw [hw]; rfl) rfl ?_
          refine A_iload dX2_coldAs_140 rfl ?_
          refine A_if_eq (tgt := 163) dX2_coldAs_142 rfl (fun h_5 => ?_) (fun h_5 => ?_)
          · skip
            exact absurd h_5 (by decide)
          · skip
            refine A_iconst (v := 0) dX2_coldAs_145 (by decide) ?_
            refine A_iload_n dX2_coldAs_146 rfl rfl ?_
            refine A_aload_n dX2_coldAs_147 rfl rfl ?_
            refine B_getR (r := (o + 2)) dX2_coldAs_148 flX2_15 (hC 0 _ rfl) rfl ?_
            refine A_iload_n dX2_coldAs_151 rfl rfl ?_
            refine B_iald (i := p) dX2_coldAs_152 (hC 2 _ rfl) (by decide) (rfl) (by omega) ?_
            refine A_iadd dX2_coldAs_153 ?_
            refine A_bipush (v := 10) dX2_coldAs_154 (by decide) ?_
            refine A_isub dX2_coldAs_156 ?_
            refine A_mx0 dX2_coldAs_157 mlX2_73 (by omega) (Nat.le_of_ble_eq_true rfl) ?_
            refine A_goto (tgt := 171) dX2_coldAs_160 rfl ?_
            refine A_iret dX2_coldAs_171 rfl (az_pi hP ?_ (rfl))
            rw [hw]; exact ((zcold_4 _ _ _ _ _).trans (if_pos (decide_eq_true (by show (if sg (o + 1) p = 4 then (1 : Int32) else 0) < sg o 12; rw [if_neg h_2]; exact Int32.not_le.mp h_3)))).symm
        · skip
          refine A_tableIn (off := 113) (tgt := 172) dX2_coldAs_59 (by rw [hw]; decide) (by rw [hw]; decide) (by rw [hw]; rfl) rfl ?_
          refine A_iload_n dX2_coldAs_172 rfl rfl ?_
          refine A_iconst (v := 5) dX2_coldAs_173 (by decide) ?_
          refine A_iadd dX2_coldAs_174 ?_
          refine A_iret dX2_coldAs_175 rfl (az_pi hP ?_ (rfl))
          rw [hw]; exact (zcold_5 _ _ _ _ _).symm
        · skip
          refine A_tableOut (tgt := 176) dX2_coldAs_59 hw rfl ?_
          refine A_iload_n dX2_coldAs_176 rfl rfl ?_
          refine A_iret dX2_coldAs_177 rfl (az_pi hP ?_ (rfl))
          (unfold zcT zcold; rw [if_neg (az_ne hw 1 (by decide) (by decide)), if_neg (az_ne hw 2 (by decide) (by decide)), if_neg (az_ne hw 3 (by decide) (by decide)), if_neg (az_ne hw 4 (by decide) (by decide)), if_neg (az_ne hw 5 (by decide) (by decide))]; rfl)
    · skip
      refine A_iconst (v := 1) dX2_coldAs_43 (by decide) ?_
      refine A_goto (tgt := 48) dX2_coldAs_44 rfl ?_
      refine A_icmp_le (tgt := 55) dX2_coldAs_48 rfl (fun h_6 => ?_) (fun h_6 => ?_)
      · skip
        refine A_iconst (v := 0) dX2_coldAs_55 (by decide) ?_
        refine A_istore (lo2 := [some (.ref o), some (.int t), some (.int (nI p)), some (.int (mx0 ((40 - sg o 6) - sg (o + 5) p))), some (.int 0)]) dX2_coldAs_56 (by decide) rfl ?_
        refine A_iload_n dX2_coldAs_58 rfl rfl ?_
        rcases az_sw15 (t) with hw | hw | hw | hw | hw | hw
        · skip
          refine A_tableIn (off := 33) (tgt := 92) dX2_coldAs_59 (by rw [hw]; decide) (by rw [hw]; decide) (by rw [hw]; rfl) rfl ?_
          refine A_iconst (v := 0) dX2_coldAs_92 (by decide) ?_
          refine A_iload_n dX2_coldAs_93 rfl rfl ?_
          refine A_aload_n dX2_coldAs_94 rfl rfl ?_
          refine B_getR (r := (o + 2)) dX2_coldAs_95 flX2_15 (hC 0 _ rfl) rfl ?_
          refine A_iload_n dX2_coldAs_98 rfl rfl ?_
          refine B_iald (i := p) dX2_coldAs_99 (hC 2 _ rfl) (by decide) (rfl) (by omega) ?_
          refine A_isub dX2_coldAs_100 ?_
          refine A_mx0 dX2_coldAs_101 mlX2_73 (by omega) (Nat.le_of_ble_eq_true rfl) ?_
          refine A_iret dX2_coldAs_104 rfl (az_pi hP ?_ (rfl))
          rw [hw]; exact (zcold_1 _ _ _ _ _).symm
        · skip
          refine A_tableIn (off := 72) (tgt := 131) dX2_coldAs_59 (by rw [hw]; decide) (by rw [hw]; decide) (by rw [hw]; rfl) rfl ?_
          refine A_iload_n dX2_coldAs_131 rfl rfl ?_
          refine A_aload_n dX2_coldAs_132 rfl rfl ?_
          refine B_getR (r := (o + 2)) dX2_coldAs_133 flX2_15 (hC 0 _ rfl) rfl ?_
          refine A_iload_n dX2_coldAs_136 rfl rfl ?_
          refine B_iald (i := p) dX2_coldAs_137 (hC 2 _ rfl) (by decide) (rfl) (by omega) ?_
          refine A_iadd dX2_coldAs_138 ?_
          refine A_iret dX2_coldAs_139 rfl (az_pi hP ?_ (rfl))
          rw [hw]; exact (zcold_2 _ _ _ _ _).symm
        · skip
          refine A_tableIn (off := 46) (tgt := 105) dX2_coldAs_59 (by rw [hw]; decide) (by rw [hw]; decide) (by rw [hw]; rfl) rfl ?_
          refine A_iconst (v := 0) dX2_coldAs_105 (by decide) ?_
          refine A_iconst (v := 0) dX2_coldAs_106 (by decide) ?_
          refine A_iload_n dX2_coldAs_107 rfl rfl ?_
          refine A_aload_n dX2_coldAs_108 rfl rfl ?_
          refine B_getR (r := (o + 2)) dX2_coldAs_109 flX2_15 (hC 0 _ rfl) rfl ?_
          refine A_iload_n dX2_coldAs_112 rfl rfl ?_
          refine B_iald (i := p) dX2_coldAs_113 (hC 2 _ rfl) (by decide) (rfl) (by omega) ?_
          refine A_isub dX2_coldAs_114 ?_
          refine A_mx0 dX2_coldAs_115 mlX2_73 (by omega) (Nat.le_of_ble_eq_true rfl) ?_
          refine A_iconst (v := 2) dX2_coldAs_118 (by decide) ?_
          refine A_aload_n dX2_coldAs_119 rfl rfl ?_
          refine B_getR (r := (o + 4)) dX2_coldAs_120 flX2_21 (hC 0 _ rfl) rfl ?_
          refine A_iload_n dX2_coldAs_123 rfl rfl ?_
          refine B_iald (i := p) dX2_coldAs_124 (hC 4 _ rfl) (by decide) (rfl) (by omega) ?_
          refine A_imul dX2_coldAs_125 ?_
          refine A_isub dX2_coldAs_126 ?_
          refine A_mx0 dX2_coldAs_127 mlX2_73 (by omega) (Nat.le_of_ble_eq_true rfl) ?_
          refine A_iret dX2_coldAs_130 rfl (az_pi hP ?_ (rfl))
          rw [hw]; exact (zcold_3 _ _ _ _ _).symm
        · skip
          refine A_tableIn (off := 81) (tgt := 140) dX2_coldAs_59 (by rw [hw]; decide) (by rw [hw]; decide) (by rw [hw]; rfl) rfl ?_
          refine A_iload dX2_coldAs_140 rfl ?_
          refine A_if_eq (tgt := 163) dX2_coldAs_142 rfl (fun h_7 => ?_) (fun h_7 => ?_)
          · skip
            refine A_iload_n dX2_coldAs_163 rfl rfl ?_
            refine A_aload_n dX2_coldAs_164 rfl rfl ?_
            refine B_getR (r := (o + 2)) dX2_coldAs_165 flX2_15 (hC 0 _ rfl) rfl ?_
            refine A_iload_n dX2_coldAs_168 rfl rfl ?_
            refine B_iald (i := p) dX2_coldAs_169 (hC 2 _ rfl) (by decide) (rfl) (by omega) ?_
            refine A_iadd dX2_coldAs_170 ?_
            refine A_iret dX2_coldAs_171 rfl (az_pi hP ?_ (rfl))
            rw [hw]; exact ((zcold_4 _ _ _ _ _).trans (if_neg (fun q => absurd (of_decide_eq_true q) (by show ¬ (if sg (o + 1) p = 4 then (1 : Int32) else 0) < sg o 12; rw [if_pos h_2]; exact Int32.not_lt.mpr h_6)))).symm
          · skip
            exact absurd (by decide) h_7
        · skip
          refine A_tableIn (off := 113) (tgt := 172) dX2_coldAs_59 (by rw [hw]; decide) (by rw [hw]; decide) (by rw [hw]; rfl) rfl ?_
          refine A_iload_n dX2_coldAs_172 rfl rfl ?_
          refine A_iconst (v := 5) dX2_coldAs_173 (by decide) ?_
          refine A_iadd dX2_coldAs_174 ?_
          refine A_iret dX2_coldAs_175 rfl (az_pi hP ?_ (rfl))
          rw [hw]; exact (zcold_5 _ _ _ _ _).symm
        · skip
          refine A_tableOut (tgt := 176) dX2_coldAs_59 hw rfl ?_
          refine A_iload_n dX2_coldAs_176 rfl rfl ?_
          refine A_iret dX2_coldAs_177 rfl (az_pi hP ?_ (rfl))
          (unfold zcT zcold; rw [if_neg (az_ne hw 1 (by decide) (by decide)), if_neg (az_ne hw 2 (by decide) (by decide)), if_neg (az_ne hw 3 (by decide) (by decide)), if_neg (az_ne hw 4 (by decide) (by decide)), if_neg (az_ne hw 5 (by decide) (by decide))]; rfl)
      · skip
        refine A_iconst (v := 1) dX2_coldAs_51 (by decide) ?_
        refine A_goto (tgt := 56) dX2_coldAs_52 rfl ?_
        refine A_istore (lo2 := [some (.ref o), some (.int t), some (.int (nI p)), some (.int (mx0 ((40 - sg o 6) - sg (o + 5) p))), some (.int 1)]) dX2_coldAs_56 (by decide) rfl ?_
        refine A_iload_n dX2_coldAs_58 rfl rfl ?_
        rcases az_sw15 (t) with hw | hw | hw | hw | hw | hw
        · skip
          refine A_tableIn (off := 33) (tgt := 92) dX2_coldAs_59 (by rw [hw]; decide) (by rw [hw]; decide) (by rw [hw]; rfl) rfl ?_
          refine A_iconst (v := 0) dX2_coldAs_92 (by decide) ?_
          refine A_iload_n dX2_coldAs_93 rfl rfl ?_
          refine A_aload_n dX2_coldAs_94 rfl rfl ?_
          refine B_getR (r := (o + 2)) dX2_coldAs_95 flX2_15 (hC 0 _ rfl) rfl ?_
          refine A_iload_n dX2_coldAs_98 rfl rfl ?_
          refine B_iald (i := p) dX2_coldAs_99 (hC 2 _ rfl) (by decide) (rfl) (by omega) ?_
          refine A_isub dX2_coldAs_100 ?_
          refine A_mx0 dX2_coldAs_101 mlX2_73 (by omega) (Nat.le_of_ble_eq_true rfl) ?_
          refine A_iret dX2_coldAs_104 rfl (az_pi hP ?_ (rfl))
          rw [hw]; exact (zcold_1 _ _ _ _ _).symm
        · skip
          refine A_tableIn (off := 72) (tgt := 131) dX2_coldAs_59 (by rw [hw]; decide) (by rw [hw]; decide) (by rw [hw]; rfl) rfl ?_
          refine A_iload_n dX2_coldAs_131 rfl rfl ?_
          refine A_aload_n dX2_coldAs_132 rfl rfl ?_
          refine B_getR (r := (o + 2)) dX2_coldAs_133 flX2_15 (hC 0 _ rfl) rfl ?_
          refine A_iload_n dX2_coldAs_136 rfl rfl ?_
          refine B_iald (i := p) dX2_coldAs_137 (hC 2 _ rfl) (by decide) (rfl) (by omega) ?_
          refine A_iadd dX2_coldAs_138 ?_
          refine A_iret dX2_coldAs_139 rfl (az_pi hP ?_ (rfl))
          rw [hw]; exact (zcold_2 _ _ _ _ _).symm
        · skip
          refine A_tableIn (off := 46) (tgt := 105) dX2_coldAs_59 (by rw [hw]; decide) (by rw [hw]; decide) (by rw [hw]; rfl) rfl ?_
          refine A_iconst (v := 0) dX2_coldAs_105 (by decide) ?_
          refine A_iconst (v := 0) dX2_coldAs_106 (by decide) ?_
          refine A_iload_n dX2_coldAs_107 rfl rfl ?_
          refine A_aload_n dX2_coldAs_108 rfl rfl ?_
          refine B_getR (r := (o + 2)) dX2_coldAs_109 flX2_15 (hC 0 _ rfl) rfl ?_
          refine A_iload_n dX2_coldAs_112 rfl rfl ?_
          refine B_iald (i := p) dX2_coldAs_113 (hC 2 _ rfl) (by decide) (rfl) (by omega) ?_
          refine A_isub dX2_coldAs_114 ?_
          refine A_mx0 dX2_coldAs_115 mlX2_73 (by omega) (Nat.le_of_ble_eq_true rfl) ?_
          refine A_iconst (v := 2) dX2_coldAs_118 (by decide) ?_
          refine A_aload_n dX2_coldAs_119 rfl rfl ?_
          refine B_getR (r := (o + 4)) dX2_coldAs_120 flX2_21 (hC 0 _ rfl) rfl ?_
          refine A_iload_n dX2_coldAs_123 rfl rfl ?_
          refine B_iald (i := p) dX2_coldAs_124 (hC 4 _ rfl) (by decide) (rfl) (by omega) ?_
          refine A_imul dX2_coldAs_125 ?_
          refine A_isub dX2_coldAs_126 ?_
          refine A_mx0 dX2_coldAs_127 mlX2_73 (by omega) (Nat.le_of_ble_eq_true rfl) ?_
          refine A_iret dX2_coldAs_130 rfl (az_pi hP ?_ (rfl))
          rw [hw]; exact (zcold_3 _ _ _ _ _).symm
        · skip
          refine A_tableIn (off := 81) (tgt := 140) dX2_coldAs_59 (by rw [hw]; decide) (by rw [hw]; decide) (by rw [hw]; rfl) rfl ?_
          refine A_iload dX2_coldAs_140 rfl ?_
          refine A_if_eq (tgt := 163) dX2_coldAs_142 rfl (fun h_8 => ?_) (fun h_8 => ?_)
          · skip
            exact absurd h_8 (by decide)
          · skip
            refine A_iconst (v := 0) dX2_coldAs_145 (by decide) ?_
            refine A_iload_n dX2_coldAs_146 rfl rfl ?_
            refine A_aload_n dX2_coldAs_147 rfl rfl ?_
            refine B_getR (r := (o + 2)) dX2_coldAs_148 flX2_15 (hC 0 _ rfl) rfl ?_
            refine A_iload_n dX2_coldAs_151 rfl rfl ?_
            refine B_iald (i := p) dX2_coldAs_152 (hC 2 _ rfl) (by decide) (rfl) (by omega) ?_
            refine A_iadd dX2_coldAs_153 ?_
            refine A_bipush (v := 10) dX2_coldAs_154 (by decide) ?_
            refine A_isub dX2_coldAs_156 ?_
            refine A_mx0 dX2_coldAs_157 mlX2_73 (by omega) (Nat.le_of_ble_eq_true rfl) ?_
            refine A_goto (tgt := 171) dX2_coldAs_160 rfl ?_
            refine A_iret dX2_coldAs_171 rfl (az_pi hP ?_ (rfl))
            rw [hw]; exact ((zcold_4 _ _ _ _ _).trans (if_pos (decide_eq_true (by show (if sg (o + 1) p = 4 then (1 : Int32) else 0) < sg o 12; rw [if_pos h_2]; exact Int32.not_le.mp h_6)))).symm
        · skip
          refine A_tableIn (off := 113) (tgt := 172) dX2_coldAs_59 (by rw [hw]; decide) (by rw [hw]; decide) (by rw [hw]; rfl) rfl ?_
          refine A_iload_n dX2_coldAs_172 rfl rfl ?_
          refine A_iconst (v := 5) dX2_coldAs_173 (by decide) ?_
          refine A_iadd dX2_coldAs_174 ?_
          refine A_iret dX2_coldAs_175 rfl (az_pi hP ?_ (rfl))
          rw [hw]; exact (zcold_5 _ _ _ _ _).symm
        · skip
          refine A_tableOut (tgt := 176) dX2_coldAs_59 hw rfl ?_
          refine A_iload_n dX2_coldAs_176 rfl rfl ?_
          refine A_iret dX2_coldAs_177 rfl (az_pi hP ?_ (rfl))
          (unfold zcT zcold; rw [if_neg (az_ne hw 1 (by decide) (by decide)), if_neg (az_ne hw 2 (by decide) (by decide)), if_neg (az_ne hw 3 (by decide) (by decide)), if_neg (az_ne hw 4 (by decide) (by decide)), if_neg (az_ne hw 5 (by decide) (by decide))]; rfl)
  · skip
    exact absurd h_1 (by decide)
set_option maxHeartbeats 600000 in
set_option maxRecDepth 100000 in
theorem c_X2_limitBy (l : Launch) (G : az_Gh) (d : Nat) (sh : List az_Sh) (sg : Nat → Nat → Int32) (la : Nat → Nat → Int64) (o p : Nat) (t : Int32) (hC : az_at sh o (lyC o)) (hO : cOk (ct sg o)) (hp : p < cN (ct sg o)) : FM l G (d + 1) mX2_limitBy [.ref o, .int t, .int (nI p)] (sh, sg, la) (some (.int (zl (ct sg o) t p))) (sh, sg, la) := by
  refine az_fm knX2_limitBy (Nat.le_of_ble_eq_true rfl) rfl (fun Post hP => ?_)
  show AW l G mX2_limitBy (d + 1) (az_F G Post) 0 0 0 [some (.ref o), some (.int t), some (.int (nI p))] [] (sh, sg, la)
  have h8 := hO.2
  refine A_aload_n dX2_limitBy_0 rfl rfl ?_
  refine A_iload_n dX2_limitBy_1 rfl rfl ?_
  refine A_callV (n := 0) dX2_limitBy_2 kvX2_hasOne mlX2_69 rfl (az_rc_obj clX2 (hC 0 _ rfl)) (c_X2_hasOne_in l G d sh sg la o p hC hO (by omega)) (by omega) (Nat.le_refl _) (Nat.le_refl _) rfl (Nat.le_of_ble_eq_true rfl) (fun r S1 hp => ?_)
  obtain ⟨rfl, rfl⟩ := hp
  show AW l G mX2_limitBy (d + 1) (az_F G Post) 0 0 5 [some (.ref o), some (.int t), some (.int (nI p))] [.int 1] (sh, sg, la)
  refine A_if_ne (tgt := 10) dX2_limitBy_5 rfl (fun h_1 => ?_) (fun h_1 => ?_)
  · skip
    refine A_aload_n dX2_limitBy_10 rfl rfl ?_
    refine B_getR (r := (o + 1)) dX2_limitBy_11 flX2_9 (hC 0 _ rfl) rfl ?_
    refine A_iload_n dX2_limitBy_14 rfl rfl ?_
    refine B_iald (i := p) dX2_limitBy_15 (hC 1 _ rfl) (by decide) (rfl) (by omega) ?_
    rcases az_sw15 (sg (o + 1) p) with hw | hw | hw | hw | hw | hw
    · skip
      refine A_tableIn (off := 36) (tgt := 52) dX2_limitBy_16 (by rw [hw]; decide) (by rw [hw]; decide) (by rw [hw]; rfl) rfl ?_
      refine A_bipush (v := 10) dX2_limitBy_52 (by decide) ?_
      refine A_iconst (v := 2) dX2_limitBy_54 (by decide) ?_
      refine A_iload_n dX2_limitBy_55 rfl rfl ?_
      refine A_imul dX2_limitBy_56 ?_
      refine A_iadd dX2_limitBy_57 ?_
      refine A_iret dX2_limitBy_58 rfl (az_pi hP ?_ (rfl))
      (show _ = zlim (sg (o + 1) p) _ _; rw [hw]; exact (zlim_1 _ _).symm)
    · skip
      refine A_tableIn (off := 57) (tgt := 73) dX2_limitBy_16 (by rw [hw]; decide) (by rw [hw]; decide) (by rw [hw]; rfl) rfl ?_
      refine A_iconst (v := 5) dX2_limitBy_73 (by decide) ?_
      refine A_iload_n dX2_limitBy_74 rfl rfl ?_
      refine A_iadd dX2_limitBy_75 ?_
      refine A_iret dX2_limitBy_76 rfl (az_pi hP ?_ (rfl))
      (show _ = zlim (sg (o + 1) p) _ _; rw [hw]; exact (zlim_2 _ _).symm)
    · skip
      refine A_tableIn (off := 43) (tgt := 59) dX2_limitBy_16 (by rw [hw]; decide) (by rw [hw]; decide) (by rw [hw]; rfl) rfl ?_
      refine A_bipush (v := 10) dX2_limitBy_59 (by decide) ?_
      refine A_iconst (v := 2) dX2_limitBy_61 (by decide) ?_
      refine A_iload_n dX2_limitBy_62 rfl rfl ?_
      refine A_imul dX2_limitBy_63 ?_
      refine A_iadd dX2_limitBy_64 ?_
      refine A_aload_n dX2_limitBy_65 rfl rfl ?_
      refine B_getR (r := (o + 2)) dX2_limitBy_66 flX2_15 (hC 0 _ rfl) rfl ?_
      refine A_iload_n dX2_limitBy_69 rfl rfl ?_
      refine B_iald (i := p) dX2_limitBy_70 (hC 2 _ rfl) (by decide) (rfl) (by omega) ?_
      refine A_iadd dX2_limitBy_71 ?_
      refine A_iret dX2_limitBy_72 rfl (az_pi hP ?_ (rfl))
      (show _ = zlim (sg (o + 1) p) _ _; rw [hw]; exact (zlim_3 _ _).symm)
    · skip
      refine A_tableIn (off := 61) (tgt := 77) dX2_limitBy_16 (by rw [hw]; decide) (by rw [hw]; decide) (by rw [hw]; rfl) rfl ?_
      refine A_bipush (v := 35) dX2_limitBy_77 (by decide) ?_
      refine A_iret dX2_limitBy_79 rfl (az_pi hP ?_ (rfl))
      (show _ = zlim (sg (o + 1) p) _ _; rw [hw]; exact (zlim_4 _ _).symm)
    · skip
      refine A_tableIn (off := 64) (tgt := 80) dX2_limitBy_16 (by rw [hw]; decide) (by rw [hw]; decide) (by rw [hw]; rfl) rfl ?_
      refine A_bipush (v := 10) dX2_limitBy_80 (by decide) ?_
      refine A_iret dX2_limitBy_82 rfl (az_pi hP ?_ (rfl))
      (show _ = zlim (sg (o + 1) p) _ _; rw [hw]; exact (zlim_5 _ _).symm)
    · skip
      refine A_tableOut (tgt := 83) dX2_limitBy_16 hw rfl ?_
      refine A_bipush (v := 10) dX2_limitBy_83 (by decide) ?_
      refine A_iload_n dX2_limitBy_85 rfl rfl ?_
      refine A_iadd dX2_limitBy_86 ?_
      refine A_iret dX2_limitBy_87 rfl (az_pi hP ?_ (rfl))
      (show _ = zlim (sg (o + 1) p) _ _; unfold zlim; rw [if_neg (az_ne hw 1 (by decide) (by decide)), if_neg (az_ne hw 2 (by decide) (by decide)), if_neg (az_ne hw 3 (by decide) (by decide)), if_neg (az_ne hw 4 (by decide) (by decide)), if_neg (az_ne hw 5 (by decide) (by decide))])
  · skip
    exact absurd h_1 (by decide)
set_option maxHeartbeats 600000 in
set_option maxRecDepth 100000 in
theorem c_X2_isHeard (l : Launch) (G : az_Gh) (d : Nat) (sh : List az_Sh) (sg : Nat → Nat → Int32) (la : Nat → Nat → Int64) (o p : Nat) (hC : az_at sh o (lyC o)) (hO : cOk (ct sg o)) (hp : p < cN (ct sg o)) : FM l G (d + 2) mX2_isHeard [.ref o, .int (nI p)] (sh, sg, la) (some (.int (b2i (zsp (ct sg o) p = true)))) (sh, sg, la) := by
  refine az_fm knX2_isHeard (Nat.le_of_ble_eq_true rfl) rfl (fun Post hP => ?_)
  show AW l G mX2_isHeard (d + 2) (az_F G Post) 0 0 0 [some (.ref o), some (.int (nI p))] [] (sh, sg, la)
  have h8 := hO.2
  refine A_aload_n dX2_isHeard_0 rfl rfl ?_
  refine A_iload_n dX2_isHeard_1 rfl rfl ?_
  refine A_callV (n := 0) dX2_isHeard_2 kvX2_hasOne mlX2_69 rfl (az_rc_obj clX2 (hC 0 _ rfl)) (c_X2_hasOne_in l G (d + 1) sh sg la o p hC hO (by omega)) (by omega) (Nat.le_refl _) (Nat.le_refl _) rfl (Nat.le_of_ble_eq_true rfl) (fun r S1 hp => ?_)
  obtain ⟨rfl, rfl⟩ := hp
  show AW l G mX2_isHeard (d + 2) (az_F G Post) 0 0 5 [some (.ref o), some (.int (nI p))] [.int 1] (sh, sg, la)
  refine A_if_eq (tgt := 37) dX2_isHeard_5 rfl (fun h_1 => ?_) (fun h_1 => ?_)
  · skip
    exact absurd h_1 (by decide)
  · skip
    refine A_aload_n dX2_isHeard_8 rfl rfl ?_
    refine A_aload_n dX2_isHeard_9 rfl rfl ?_
    refine B_getR (r := (o + 1)) dX2_isHeard_10 flX2_9 (hC 0 _ rfl) rfl ?_
    refine A_iload_n dX2_isHeard_13 rfl rfl ?_
    refine B_iald (i := p) dX2_isHeard_14 (hC 1 _ rfl) (by decide) (rfl) (by omega) ?_
    refine A_iload_n dX2_isHeard_15 rfl rfl ?_
    refine A_callV (n := 0) dX2_isHeard_16 kvX2_coldAs mlX2_79 rfl (az_rc_obj clX2 (hC 0 _ rfl)) (c_X2_coldAs l G d sh sg la o p (sg (o + 1) p) hC hO (by omega)) (by omega) (Nat.le_refl _) (Nat.le_refl _) rfl (Nat.le_of_ble_eq_true rfl) (fun r S1 hp => ?_)
    obtain ⟨rfl, rfl⟩ := hp
    show AW l G mX2_isHeard (d + 2) (az_F G Post) 0 0 19 [some (.ref o), some (.int (nI p))] [.int (zcT (sg (o + 1) p) (ct sg o) p)] (sh, sg, la)
    refine A_aload_n dX2_isHeard_19 rfl rfl ?_
    refine A_aload_n dX2_isHeard_20 rfl rfl ?_
    refine B_getR (r := (o + 3)) dX2_isHeard_21 flX2_18 (hC 0 _ rfl) rfl ?_
    refine A_iload_n dX2_isHeard_24 rfl rfl ?_
    refine B_iald (i := p) dX2_isHeard_25 (hC 3 _ rfl) (by decide) (rfl) (by omega) ?_
    refine A_iload_n dX2_isHeard_26 rfl rfl ?_
    refine A_callV (n := 0) dX2_isHeard_27 kvX2_limitBy mlX2_82 rfl (az_rc_obj clX2 (hC 0 _ rfl)) (c_X2_limitBy l G d sh sg la o p (sg (o + 3) p) hC hO (by omega)) (by omega) (Nat.le_refl _) (Nat.le_refl _) rfl (Nat.le_of_ble_eq_true rfl) (fun r S1 hp => ?_)
    obtain ⟨rfl, rfl⟩ := hp
    show AW l G mX2_isHeard (d + 2) (az_F G Post) 0 0 30 [some (.ref o), some (.int (nI p))] [.int (zl (ct sg o) (sg (o + 3) p) p), .int (zcT (sg (o + 1) p) (ct sg o) p)] (sh, sg, la)
    refine A_icmp_le (tgt := 37) dX2_isHeard_30 rfl (fun h_2 => ?_) (fun h_2 => ?_)
    · skip
      refine A_iconst (v := 0) dX2_isHeard_37 (by decide) ?_
      refine A_zret dX2_isHeard_38 rfl (rfl) (az_pi hP ?_ (rfl))
      first | exact b2i_t (decide_eq_true (Int32.not_le.mp h_2)) | exact b2i_f (fun h => absurd (of_decide_eq_true h) (Int32.not_lt.mpr h_2))
    · skip
      refine A_iconst (v := 1) dX2_isHeard_33 (by decide) ?_
      refine A_goto (tgt := 38) dX2_isHeard_34 rfl ?_
      refine A_zret dX2_isHeard_38 rfl (rfl) (az_pi hP ?_ (rfl))
      first | exact b2i_t (decide_eq_true (Int32.not_le.mp h_2)) | exact b2i_f (fun h => absurd (of_decide_eq_true h) (Int32.not_lt.mpr h_2))
