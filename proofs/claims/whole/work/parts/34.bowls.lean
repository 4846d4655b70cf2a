theorem lcmp_lt {x y : Int64} : lg_cmp x y < 0 ↔ x < y := by
  unfold lg_cmp
  by_cases h : x < y
  · rw [if_neg (fun q : x > y => Int64.lt_irrefl (Int64.lt_trans h q)), if_neg (fun q => by rw [q] at h; exact Int64.lt_irrefl h)]; exact ⟨fun _ => h, fun _ => by decide⟩
  · refine ⟨fun q => ?_, fun q => absurd q h⟩
    by_cases h2 : x > y
    · rw [if_pos h2] at q; exact absurd q (by decide)
    · rw [if_neg h2] at q
      by_cases h3 : x = y
      · rw [if_pos h3] at q; exact absurd q (by decide)
      · exact absurd (Int64.le_antisymm (Int64.not_lt.mp h2) (Int64.not_lt.mp h)) h3
theorem lcmp_ge {x y : Int64} : 0 ≤ lg_cmp x y ↔ y ≤ x := by
  rw [← Int32.not_lt, ← Int64.not_lt]
  exact not_congr lcmp_lt
set_option maxHeartbeats 600000 in
set_option maxRecDepth 100000 in
theorem c_X0_isBelow (l : Launch) (G : az_Gh) (d : Nat) (sh : List az_Sh) (sg : Nat → Nat → Int32) (la : Nat → Nat → Int64) (o N : Nat) (B W : Nat → Int32) (p q : Nat) (hB : az_at sh o (lyB o)) (hN : N ≤ 8) (hq : q < N) : FM l G (d) mX0_isBelow [.ref o, .int (nI p), .int (nI q)] (sh, (zB sg o (nI N) B W), la) (some (.int (b2i (zbl B p q = true)))) (sh, (zB sg o (nI N) B W), la) := by
  refine az_fm knX0_isBelow (Nat.le_of_ble_eq_true rfl) rfl (fun Post hP => ?_)
  show AW l G mX0_isBelow (d) (az_F G Post) 0 0 0 [some (.ref o), some (.int (nI p)), some (.int (nI q))] [] (sh, (zB sg o (nI N) B W), la)
  refine A_aload_n dX0_isBelow_0 rfl rfl ?_
  refine B_getR (r := (o + 1)) dX0_isBelow_1 flX0_9 (hB 0 _ rfl) rfl ?_
  refine A_iload_n dX0_isBelow_4 rfl rfl ?_
  refine B_ialdV (i := q) (B q) dX0_isBelow_5 (hB 1 _ rfl) (by decide) (rfl) (by omega) (congrFun (zB_1 _ _ _ _ _) _) ?_
  refine A_iload_n dX0_isBelow_6 rfl rfl ?_
  refine A_ishr dX0_isBelow_7 ?_
  refine A_iconst (v := 1) dX0_isBelow_8 (by decide) ?_
  refine A_iand dX0_isBelow_9 ?_
  refine A_iconst (v := 1) dX0_isBelow_10 (by decide) ?_
  refine A_icmp_ne (tgt := 18) dX0_isBelow_11 rfl (fun h_1 => ?_) (fun h_1 => ?_)
  · skip
    refine A_iconst (v := 0) dX0_isBelow_18 (by decide) ?_
    refine A_zret dX0_isBelow_19 rfl (rfl) (az_pi hP ?_ (rfl))
    exact b2i_f (fun q => h_1 (of_decide_eq_true q))
  · skip
    refine A_iconst (v := 1) dX0_isBelow_14 (by decide) ?_
    refine A_goto (tgt := 19) dX0_isBelow_15 rfl ?_
    refine A_zret dX0_isBelow_19 rfl (rfl) (az_pi hP ?_ (rfl))
    exact b2i_t (decide_eq_true h_1)
def zpp (N : Nat) (B : Nat → Int32) (a b : Int64) : Nat → Int32 := if zpg N B a b = true then zpt N B a b else B
theorem zpp_t {N : Nat} {B : Nat → Int32} {a b : Int64} (h : zpg N B a b = true) : zpp N B a b = zpt N B a b := if_pos h
theorem zpp_f {N : Nat} {B : Nat → Int32} {a b : Int64} (h : zpg N B a b = false) : zpp N B a b = B := if_neg (by rw [h]; intro q; cases q)
set_option maxHeartbeats 600000 in
set_option maxRecDepth 100000 in
theorem c_X0_putAbove (l : Launch) (G : az_Gh) (d : Nat) (sh : List az_Sh) (sg : Nat → Nat → Int32) (la : Nat → Nat → Int64) (o N : Nat) (B W : Nat → Int32) (a b : Int64) (hB : az_at sh o (lyB o)) (hN : N ≤ 8) : FM l G (d + 1) mX0_putAbove [.ref o, .long a, .long b] (sh, (zB sg o (nI N) B W), la) (some (.int (b2i (zpg N B a b = true)))) (sh, (zB sg o (nI N) (zpp N B a b) W), la) := by
  refine az_fm knX0_putAbove (Nat.le_of_ble_eq_true rfl) rfl (fun Post hP => ?_)
  show AW l G mX0_putAbove (d + 1) (az_F G Post) 0 0 0 [some (.ref o), some (.long a), none, some (.long b), none, none, none, none, none] [] (sh, (zB sg o (nI N) B W), la)
  refine A_lload_n dX0_putAbove_0 rfl rfl ?_
  refine A_lconst (v := 0) dX0_putAbove_1 (by decide) ?_
  refine A_lcmp dX0_putAbove_2 ?_
  refine A_if_lt (tgt := 32) dX0_putAbove_3 rfl (fun h_1 => ?_) (fun h_1 => ?_)
  · skip
    refine A_iconst (v := 0) dX0_putAbove_32 (by decide) ?_
    refine A_zret dX0_putAbove_33 rfl rfl (az_pi hP ?_ (by rw [zpp_f (zpg_1 (fun q => absurd q.1 (Int64.not_le.mpr (lcmp_lt.mp h_1))))]))
    (exact b2i_f (fun q => by rw [zpg_1 (fun q => absurd q.1 (Int64.not_le.mpr (lcmp_lt.mp h_1)))] at q; cases q))
  · skip
    refine A_lload_n dX0_putAbove_6 rfl rfl ?_
    refine A_aload_n dX0_putAbove_7 rfl rfl ?_
    refine B_getV (nI N) dX0_putAbove_8 flX0_18 (hB 0 _ rfl) rfl (zB_k _ _ _ _ _) ?_
    refine A_i2l dX0_putAbove_11 ?_
    refine A_lcmp dX0_putAbove_12 ?_
    refine A_if_ge (tgt := 32) dX0_putAbove_13 rfl (fun h_2 => ?_) (fun h_2 => ?_)
    · skip
      refine A_iconst (v := 0) dX0_putAbove_32 (by decide) ?_
      refine A_zret dX0_putAbove_33 rfl rfl (az_pi hP ?_ (by rw [zpp_f (zpg_1 (fun q => absurd q.2 (Int64.not_lt.mpr (lcmp_ge.mp h_2))))]))
      (exact b2i_f (fun q => by rw [zpg_1 (fun q => absurd q.2 (Int64.not_lt.mpr (lcmp_ge.mp h_2)))] at q; cases q))
    · skip
      refine A_lload_n dX0_putAbove_16 rfl rfl ?_
      refine A_lconst (v := 0) dX0_putAbove_17 (by decide) ?_
      refine A_lcmp dX0_putAbove_18 ?_
      refine A_if_lt (tgt := 32) dX0_putAbove_19 rfl (fun h_3 => ?_) (fun h_3 => ?_)
      · skip
        refine A_iconst (v := 0) dX0_putAbove_32 (by decide) ?_
        refine A_zret dX0_putAbove_33 rfl rfl (az_pi hP ?_ (by rw [zpp_f (zpg_2 (fun q => absurd q.1 (Int64.not_le.mpr (lcmp_lt.mp h_3))))]))
        (exact b2i_f (fun q => by rw [zpg_2 (fun q => absurd q.1 (Int64.not_le.mpr (lcmp_lt.mp h_3)))] at q; cases q))
      · skip
        refine A_lload_n dX0_putAbove_22 rfl rfl ?_
        refine A_aload_n dX0_putAbove_23 rfl rfl ?_
        refine B_getV (nI N) dX0_putAbove_24 flX0_18 (hB 0 _ rfl) rfl (zB_k _ _ _ _ _) ?_
        refine A_i2l dX0_putAbove_27 ?_
        refine A_lcmp dX0_putAbove_28 ?_
        refine A_if_lt (tgt := 34) dX0_putAbove_29 rfl (fun h_4 => ?_) (fun h_4 => ?_)
        · skip
          have ha : zIn N a := ⟨Int64.not_lt.mp (fun q => h_1 (lcmp_lt.mpr q)), Int64.not_le.mp (fun q => h_2 (lcmp_ge.mpr q))⟩
          have hb : zIn N b := ⟨Int64.not_lt.mp (fun q => h_3 (lcmp_lt.mpr q)), lcmp_lt.mp h_4⟩
          have ha2 := zIn_at hN ha
          have hb2 := zIn_at hN hb
          refine A_lload_n dX0_putAbove_34 rfl rfl ?_
          refine A_l2i dX0_putAbove_35 ?_
          refine B_top ha2.1 ?_
          refine A_istore (lo2 := [some (.ref o), some (.long a), none, some (.long b), none, some (.int (nI (zpx a))), none, none, none]) dX0_putAbove_36 (by decide) rfl ?_
          refine A_lload_n dX0_putAbove_38 rfl rfl ?_
          refine A_l2i dX0_putAbove_39 ?_
          refine B_top hb2.1 ?_
          refine A_istore (lo2 := [some (.ref o), some (.long a), none, some (.long b), none, some (.int (nI (zpx a))), some (.int (nI (zpx b))), none, none]) dX0_putAbove_40 (by decide) rfl ?_
          refine A_iload dX0_putAbove_42 rfl ?_
          refine A_iload dX0_putAbove_44 rfl ?_
          refine A_icmp_eq (tgt := 60) dX0_putAbove_46 rfl (fun h_5 => ?_) (fun h_5 => ?_)
          · skip
            refine A_iconst (v := 0) dX0_putAbove_60 (by decide) ?_
            refine A_zret dX0_putAbove_61 rfl rfl (az_pi hP ?_ (by rw [zpp_f (zpg_3 (by rw [ha2.1, hb2.1]; exact h_5))]))
            (exact b2i_f (fun q => by rw [zpg_3 (by rw [ha2.1, hb2.1]; exact h_5)] at q; cases q))
          · skip
            refine A_aload_n dX0_putAbove_49 rfl rfl ?_
            refine A_iload dX0_putAbove_50 rfl ?_
            refine A_iload dX0_putAbove_52 rfl ?_
            refine A_callV (n := 0) dX0_putAbove_54 kvX0_isBelow mlX0_47 rfl (az_rc_obj clX0 (hB 0 _ rfl)) (c_X0_isBelow l G d sh sg la o N B W (zpx a) (zpx b) hB hN (by omega)) (by omega) (Nat.le_refl _) (Nat.le_refl _) rfl (Nat.le_of_ble_eq_true rfl) (fun r S1 hp => ?_)
            obtain ⟨rfl, rfl⟩ := hp
            show AW l G mX0_putAbove (d + 1) (az_F G Post) 0 0 57 [some (.ref o), some (.long a), none, some (.long b), none, some (.int (nI (zpx a))), some (.int (nI (zpx b))), none, none] [.int (b2i (zbl B (zpx a) (zpx b) = true))] (sh, (zB sg o (nI N) B W), la)
            refine A_if_eq (tgt := 62) dX0_putAbove_57 rfl (fun h_6 => ?_) (fun h_6 => ?_)
            · skip
              have h_6' := b2i_0.mp h_6
              refine A_aload_n dX0_putAbove_62 rfl rfl ?_
              refine B_getR (r := (o + 1)) dX0_putAbove_63 flX0_9 (hB 0 _ rfl) rfl ?_
              refine A_iload dX0_putAbove_66 rfl ?_
              refine B_ialdV (i := (zpx b)) (B (zpx b)) dX0_putAbove_68 (hB 1 _ rfl) (by decide) (rfl) (by omega) (congrFun (zB_1 _ _ _ _ _) _) ?_
              refine A_iconst (v := 1) dX0_putAbove_69 (by decide) ?_
              refine A_iload dX0_putAbove_70 rfl ?_
              refine A_ishl dX0_putAbove_72 ?_
              refine A_ior dX0_putAbove_73 ?_
              refine A_istore (lo2 := [some (.ref o), some (.long a), none, some (.long b), none, some (.int (nI (zpx a))), some (.int (nI (zpx b))), some (.int (B (zpx b) ||| (1 <<< (nI (zpx b) &&& 31)))), none]) dX0_putAbove_74 (by decide) rfl ?_
              refine A_iconst (v := 0) dX0_putAbove_76 (by decide) ?_
              refine A_istore (lo2 := [some (.ref o), some (.long a), none, some (.long b), none, some (.int (nI (zpx a))), some (.int (nI (zpx b))), some (.int (B (zpx b) ||| (1 <<< (nI (zpx b) &&& 31)))), some (.int 0)]) dX0_putAbove_77 (by decide) rfl ?_
              have loop : ∀ (q_i9 i9 : Nat) (s1 : Nat → Nat → Int32), i9 + q_i9 = N → s1 = (zB sg o (nI N) (zpn N B (zpx a) (zpx b) i9) W) → AW l G mX0_putAbove (d + 1) (az_F G Post) 0 0 79 [some (.ref o), some (.long a), none, some (.long b), none, some (.int (nI (zpx a))), some (.int (nI (zpx b))), some (.int (B (zpx b) ||| (1 <<< (nI (zpx b) &&& 31)))), some (.int (nI i9))] [] (sh, s1, la) := by
                intro q_i9
                induction q_i9 with
                | zero =>
                  intro i9 s1 hi_i9  e_s1
                  have hN_i9 : i9 = N := by omega
                  subst i9
                  refine A_iload dX0_putAbove_79 rfl ?_
                  refine A_aload_n dX0_putAbove_81 rfl rfl ?_
                  refine B_getV (nI N) dX0_putAbove_82 flX0_18 (hB 0 _ rfl) rfl (by rw [e_s1]; exact zB_k _ _ _ _ _) ?_
                  refine A_icmp_ge (tgt := 124) dX0_putAbove_85 rfl (fun h_7 => ?_) (fun h_7 => ?_)
                  · skip
                    refine A_iconst (v := 1) dX0_putAbove_124 (by decide) ?_
                    refine A_zret dX0_putAbove_125 rfl rfl (az_pi hP ?_ (by rw [e_s1, zpp_t (zpg_5 ha hb (fun q => h_5 (by rw [← ha2.1, ← hb2.1]; exact q)) (b2i_0.mp h_6))]; rfl))
                    (exact b2i_t (zpg_5 ha hb (fun q => h_5 (by rw [← ha2.1, ← hb2.1]; exact q)) (b2i_0.mp h_6)))
                  · skip
                    exact absurd (Int32.le_refl _) h_7
                | succ q_i9 ih =>
                  intro i9 s1 hi_i9  e_s1
                  refine A_iload dX0_putAbove_79 rfl ?_
                  refine A_aload_n dX0_putAbove_81 rfl rfl ?_
                  refine B_getV (nI N) dX0_putAbove_82 flX0_18 (hB 0 _ rfl) rfl (by rw [e_s1]; exact zB_k _ _ _ _ _) ?_
                  refine A_icmp_ge (tgt := 124) dX0_putAbove_85 rfl (fun h_8 => ?_) (fun h_8 => ?_)
                  · skip
                    exact absurd h_8 (nI_ge (by omega) (by omega))
                  · skip
                    refine A_iload dX0_putAbove_88 rfl ?_
                    refine A_iload dX0_putAbove_90 rfl ?_
                    refine A_icmp_eq (tgt := 106) dX0_putAbove_92 rfl (fun h_9 => ?_) (fun h_9 => ?_)
                    · skip
                      refine A_aload_n dX0_putAbove_106 rfl rfl ?_
                      refine B_getR (r := (o + 1)) dX0_putAbove_107 flX0_9 (hB 0 _ rfl) rfl ?_
                      refine A_iload dX0_putAbove_110 rfl ?_
                      refine A_dup2 dX0_putAbove_112 rfl rfl ?_
                      refine B_ialdV (i := i9) ((zpn N B (zpx a) (zpx b) i9) i9) dX0_putAbove_113 (hB 1 _ rfl) (by decide) (rfl) (by omega) (by rw [e_s1]; exact congrFun (zB_1 _ _ _ _ _) _) ?_
                      refine A_iload dX0_putAbove_114 rfl ?_
                      refine A_ior dX0_putAbove_116 ?_
                      refine B_iast (i := i9) dX0_putAbove_117 (hB 1 _ rfl) (by decide) (rfl) (by omega) ?_
                      refine A_iinc (v := nI (i9 + 1)) (lo2 := [some (.ref o), some (.long a), none, some (.long b), none, some (.int (nI (zpx a))), some (.int (nI (zpx b))), some (.int (B (zpx b) ||| (1 <<< (nI (zpx b) &&& 31)))), some (.int (nI (i9 + 1)))]) dX0_putAbove_118 rfl (nI_1 i9) (by decide) rfl ?_
                      refine A_goto (tgt := 79) dX0_putAbove_121 rfl ?_
                      refine ih (i9 + 1) _ (by omega) ?_
                      · skip
                        rw [e_s1, zB_e1, zpn_at, zpn_y (Or.inl ((nI_eq (by omega) (by omega)).mp h_9))]
                    · skip
                      refine A_aload_n dX0_putAbove_95 rfl rfl ?_
                      refine A_iload dX0_putAbove_96 rfl ?_
                      refine A_iload dX0_putAbove_98 rfl ?_
                      have hib := c_X0_isBelow l G d sh sg la o N (zpn N B (zpx a) (zpx b) i9) W (zpx a) i9 hB hN (by omega)
                      rw [← e_s1] at hib
                      refine A_callV (n := 0) dX0_putAbove_100 kvX0_isBelow mlX0_47 rfl (az_rc_obj clX0 (hB 0 _ rfl)) (hib) (by omega) (Nat.le_refl _) (Nat.le_refl _) rfl (Nat.le_of_ble_eq_true rfl) (fun r S1 hp => ?_)
                      obtain ⟨rfl, rfl⟩ := hp
                      show AW l G mX0_putAbove (d + 1) (az_F G Post) 0 0 103 [some (.ref o), some (.long a), none, some (.long b), none, some (.int (nI (zpx a))), some (.int (nI (zpx b))), some (.int (B (zpx b) ||| (1 <<< (nI (zpx b) &&& 31)))), some (.int (nI i9))] [.int (b2i (zbl (zpn N B (zpx a) (zpx b) i9) (zpx a) i9 = true))] (sh, s1, la)
                      refine A_if_eq (tgt := 118) dX0_putAbove_103 rfl (fun h_10 => ?_) (fun h_10 => ?_)
                      · skip
                        have h_10' := b2i_0.mp h_10
                        refine A_iinc (v := nI (i9 + 1)) (lo2 := [some (.ref o), some (.long a), none, some (.long b), none, some (.int (nI (zpx a))), some (.int (nI (zpx b))), some (.int (B (zpx b) ||| (1 <<< (nI (zpx b) &&& 31)))), some (.int (nI (i9 + 1)))]) dX0_putAbove_118 rfl (nI_1 i9) (by decide) rfl ?_
                        refine A_goto (tgt := 79) dX0_putAbove_121 rfl ?_
                        refine ih (i9 + 1) _ (by omega) ?_
                        · skip
                          rw [e_s1, zpn_n (i := i9) (fun q => q.elim (fun q1 => h_9 (by rw [q1])) (fun q1 => b2i_0.mp h_10 (by unfold zbl; rw [zpn_at]; exact q1)))]
                      · skip
                        have h_10' := b2i_n.mp h_10
                        refine A_aload_n dX0_putAbove_106 rfl rfl ?_
                        refine B_getR (r := (o + 1)) dX0_putAbove_107 flX0_9 (hB 0 _ rfl) rfl ?_
                        refine A_iload dX0_putAbove_110 rfl ?_
                        refine A_dup2 dX0_putAbove_112 rfl rfl ?_
                        refine B_ialdV (i := i9) ((zpn N B (zpx a) (zpx b) i9) i9) dX0_putAbove_113 (hB 1 _ rfl) (by decide) (rfl) (by omega) (by rw [e_s1]; exact congrFun (zB_1 _ _ _ _ _) _) ?_
                        refine A_iload dX0_putAbove_114 rfl ?_
                        refine A_ior dX0_putAbove_116 ?_
                        refine B_iast (i := i9) dX0_putAbove_117 (hB 1 _ rfl) (by decide) (rfl) (by omega) ?_
                        refine A_iinc (v := nI (i9 + 1)) (lo2 := [some (.ref o), some (.long a), none, some (.long b), none, some (.int (nI (zpx a))), some (.int (nI (zpx b))), some (.int (B (zpx b) ||| (1 <<< (nI (zpx b) &&& 31)))), some (.int (nI (i9 + 1)))]) dX0_putAbove_118 rfl (nI_1 i9) (by decide) rfl ?_
                        refine A_goto (tgt := 79) dX0_putAbove_121 rfl ?_
                        refine ih (i9 + 1) _ (by omega) ?_
                        · skip
                          rw [e_s1, zB_e1, zpn_at, zpn_y (Or.inr (by have q := b2i_n.mp h_10; unfold zbl at q; rw [zpn_at] at q; exact q))]
              exact loop (N) 0 _ (by omega) (by rw [zpn_0])
            · skip
              have h_6' := b2i_n.mp h_6
              refine A_iconst (v := 0) dX0_putAbove_60 (by decide) ?_
              refine A_zret dX0_putAbove_61 rfl rfl (az_pi hP ?_ (by rw [zpp_f (zpg_4 (b2i_n.mp h_6))]))
              (exact b2i_f (fun q => by rw [zpg_4 (b2i_n.mp h_6)] at q; cases q))
        · skip
          refine A_iconst (v := 0) dX0_putAbove_32 (by decide) ?_
          refine A_zret dX0_putAbove_33 rfl rfl (az_pi hP ?_ (by rw [zpp_f (zpg_2 (fun q => h_4 (lcmp_lt.mpr q.2)))]))
          (exact b2i_f (fun q => by rw [zpg_2 (fun q => h_4 (lcmp_lt.mpr q.2))] at q; cases q))
theorem zs_atB (l : Launch) (G : az_Gh) (d : Nat) (sh : List az_Sh) (sg : Nat → Nat → Int32) (la : Nat → Nat → Int64) (o : Nat) (k : Int32) (B W : Nat → Int32) (s0 : Nat) (i : Int32) (hS : az_at sh s0 (lyS s0)) (h : s0 < o ∨ o + 3 ≤ s0) (hz : ∃ z, sg s0 2 = nI z ∧ z ≤ 40) : FM l G (d + 1) mX4_at [.ref s0, .int i] (sh, zB sg o k B W, la) (some (.long (zat sg la s0 i))) (sh, zB sg o k B W, la) := by
  obtain ⟨z, h1, h2⟩ := hz
  have q := c_X4_at l G d sh (zB sg o k B W) la s0 i hS z (by rw [zB_ne h]; exact h1) h2
  rw [zat_B h] at q
  exact q
theorem zmm {N : Nat} (h : N ≤ 8) : mx0 (mnI 8 (nI N)) = nI N := by
  have hk : N = 0 ∨ N = 1 ∨ N = 2 ∨ N = 3 ∨ N = 4 ∨ N = 5 ∨ N = 6 ∨ N = 7 ∨ N = 8 := by omega
  rcases hk with rfl | rfl | rfl | rfl | rfl | rfl | rfl | rfl | rfl <;> decide
theorem zI0 : (fun _ => 0 : Nat → Int32) = zI (fun _ => 0) := funext fun _ => nI_0.symm
set_option maxHeartbeats 600000 in
set_option maxRecDepth 100000 in
theorem c_X0_firstClash (l : Launch) (G : az_Gh) (d : Nat) (sh : List az_Sh) (sg : Nat → Nat → Int32) (la : Nat → Nat → Int64) (o N s0 n : Nat) (hB : az_at sh o (lyB o)) (hN : N ≤ 8) (hS : az_at sh s0 (lyS s0)) (hds : s0 < o ∨ o + 3 ≤ s0) (hz : ∃ z, sg s0 2 = nI z ∧ z ≤ 40) (hn : n ≤ 20) (h8 : ∀ j, 8 ≤ j → sg (o + 1) j = 0) : AM l G (d + 2) mX0_firstClash [.ref o, .ref s0, .int (nI n), .int (nI N)] (sh, sg, la) 0 0 (fun r1 S1 => r1 = some (.int (oI (zclash N (fun k => zat sg la s0 (2 * nI k)) (fun k => zat sg la s0 (2 * nI k + 1)) n))) ∧ ∃ B, S1 = (sh, zB sg o (nI N) B (sg (o + 2)), la) ∧ (zclash N (fun k => zat sg la s0 (2 * nI k)) (fun k => zat sg la s0 (2 * nI k + 1)) n = none → B = zcl N (fun k => zat sg la s0 (2 * nI k)) (fun k => zat sg la s0 (2 * nI k + 1)) n) ∧ (∀ j, 8 ≤ j → B j = 0)) := by
  refine az_am knX0_firstClash (Nat.le_of_ble_eq_true rfl) rfl (fun Post hP => ?_)
  show AW l G mX0_firstClash (d + 2) (az_F G Post) 0 0 0 [some (.ref o), some (.ref s0), some (.int (nI n)), some (.int (nI N)), none] [] (sh, sg, la)
  refine A_aload_n dX0_firstClash_0 rfl rfl ?_
  refine A_iconst (v := 0) dX0_firstClash_1 (by decide) ?_
  refine A_bipush (v := 8) dX0_firstClash_2 (by decide) ?_
  refine A_iload_n dX0_firstClash_4 rfl rfl ?_
  refine A_mnI dX0_firstClash_5 mlX0_22 (by omega) (Nat.le_of_ble_eq_true rfl) ?_
  refine A_mx0 dX0_firstClash_8 mlX0_28 (by omega) (Nat.le_of_ble_eq_true rfl) ?_
  refine B_putI dX0_firstClash_11 fwX0_18 (hB 0 _ rfl) rfl ?_
  refine B_sg (show _ = (zB sg o (nI N) (sg (o + 1)) (sg (o + 2))) from ((congrArg (fun z => az_w z o 2 _) (zB_0 sg o)).trans zB_wk).trans (congrArg (fun z => zB sg o z _ _) (zmm hN))) ?_
  refine A_aload_n dX0_firstClash_14 rfl rfl ?_
  refine B_getR (r := (o + 1)) dX0_firstClash_15 flX0_9 (hB 0 _ rfl) rfl ?_
  refine A_iconst (v := 0) dX0_firstClash_18 (by decide) ?_
  refine A_callS (n := 0) dX0_firstClash_19 ksJ7_fill_53178 mlX0_31 rfl (c_J7_fill_53178 l G (d + 1) sh (zB sg o (nI N) (sg (o + 1)) (sg (o + 2))) la (o + 1) 8 0 (hB 1 _ rfl) (by omega)) (by omega) (Nat.le_refl _) (Nat.le_refl _) rfl (Nat.le_of_ble_eq_true rfl) (fun r S1 hp => ?_)
  obtain ⟨rfl, rfl⟩ := hp
  show AW l G mX0_firstClash (d + 2) (az_F G Post) 0 0 22 [some (.ref o), some (.ref s0), some (.int (nI n)), some (.int (nI N)), none] [] (sh, (va_up (zB sg o (nI N) (sg (o + 1)) (sg (o + 2))) (o + 1) (zfill ((zB sg o (nI N) (sg (o + 1)) (sg (o + 2))) (o + 1)) 8 0)), la)
  refine B_sg (show _ = (zB sg o (nI N) (zcl N (fun k => zat sg la s0 (2 * nI k)) (fun k => zat sg la s0 (2 * nI k + 1)) 0) (sg (o + 2))) from zB_w1.trans (congrArg (fun z => zB sg o (nI N) z _) (((congrArg (fun z => zfill z 8 0) (zB_1 _ _ _ _ _)).trans (zfill_z h8)).trans zI0.symm))) ?_
  refine A_iconst (v := 0) dX0_firstClash_22 (by decide) ?_
  refine A_istore (lo2 := [some (.ref o), some (.ref s0), some (.int (nI n)), some (.int (nI N)), some (.int 0)]) dX0_firstClash_23 (by decide) rfl ?_
  have loop : ∀ (q_i9 i9 : Nat) (s1 : Nat → Nat → Int32), i9 + q_i9 = n → (∀ k, k < i9 → zclB N (fun k => zat sg la s0 (2 * nI k)) (fun k => zat sg la s0 (2 * nI k + 1)) k = false) → s1 = (zB sg o (nI N) (zcl N (fun k => zat sg la s0 (2 * nI k)) (fun k => zat sg la s0 (2 * nI k + 1)) i9) (sg (o + 2))) → AW l G mX0_firstClash (d + 2) (az_F G Post) 0 0 25 [some (.ref o), some (.ref s0), some (.int (nI n)), some (.int (nI N)), some (.int (nI i9))] [] (sh, s1, la) := by
    intro q_i9
    induction q_i9 with
    | zero =>
      intro i9 s1 hi_i9 hno e_s1
      have hN_i9 : i9 = n := by omega
      subst i9
      refine A_iload dX0_firstClash_25 rfl ?_
      refine A_iload_n dX0_firstClash_27 rfl rfl ?_
      refine A_icmp_ge (tgt := 65) dX0_firstClash_28 rfl (fun h_1 => ?_) (fun h_1 => ?_)
      · skip
        refine A_iconst (v := (-1)) dX0_firstClash_65 (by decide) ?_
        refine A_iret dX0_firstClash_66 rfl (hP _ _ ⟨congrArg (fun z => some (Value.int z)) ?_, _, by rw [e_s1], fun _ => rfl, fun j hj => zcl_t (B := fun _ => 0) _ _ _ _ (by omega)⟩)
        (unfold zclash; rw [zfind_none hno]; rfl)
      · skip
        exact absurd (Int32.le_refl _) h_1
    | succ q_i9 ih =>
      intro i9 s1 hi_i9 hno e_s1
      refine A_iload dX0_firstClash_25 rfl ?_
      refine A_iload_n dX0_firstClash_27 rfl rfl ?_
      refine A_icmp_ge (tgt := 65) dX0_firstClash_28 rfl (fun h_2 => ?_) (fun h_2 => ?_)
      · skip
        exact absurd h_2 (nI_ge (by omega) (by omega))
      · skip
        subst s1
        refine A_aload_n dX0_firstClash_31 rfl rfl ?_
        refine A_aload_n dX0_firstClash_32 rfl rfl ?_
        refine A_iconst (v := 2) dX0_firstClash_33 (by decide) ?_
        refine A_iload dX0_firstClash_34 rfl ?_
        refine A_imul dX0_firstClash_36 ?_
        refine A_callV (n := 0) dX0_firstClash_37 kvX4_at mlX0_37 rfl (az_rc_obj clX4 (hS 0 _ rfl)) (zs_atB l G d sh sg la o (nI N) (zcl N (fun k => zat sg la s0 (2 * nI k)) (fun k => zat sg la s0 (2 * nI k + 1)) i9) (sg (o + 2)) s0 (2 * nI i9) hS (by omega) hz) (by omega) (Nat.le_refl _) (Nat.le_refl _) rfl (Nat.le_of_ble_eq_true rfl) (fun r S1 hp => ?_)
        obtain ⟨rfl, rfl⟩ := hp
        show AW l G mX0_firstClash (d + 2) (az_F G Post) 0 0 40 [some (.ref o), some (.ref s0), some (.int (nI n)), some (.int (nI N)), some (.int (nI i9))] [.long (zat sg la s0 (2 * nI i9)), .ref o] (sh, (zB sg o (nI N) (zcl N (fun k => zat sg la s0 (2 * nI k)) (fun k => zat sg la s0 (2 * nI k + 1)) i9) (sg (o + 2))), la)
        refine A_aload_n dX0_firstClash_40 rfl rfl ?_
        refine A_iconst (v := 2) dX0_firstClash_41 (by decide) ?_
        refine A_iload dX0_firstClash_42 rfl ?_
        refine A_imul dX0_firstClash_44 ?_
        refine A_iconst (v := 1) dX0_firstClash_45 (by decide) ?_
        refine A_iadd dX0_firstClash_46 ?_
        refine A_callV (n := 0) dX0_firstClash_47 kvX4_at mlX0_37 rfl (az_rc_obj clX4 (hS 0 _ rfl)) (zs_atB l G d sh sg la o (nI N) (zcl N (fun k => zat sg la s0 (2 * nI k)) (fun k => zat sg la s0 (2 * nI k + 1)) i9) (sg (o + 2)) s0 ((2 * nI i9) + 1) hS (by omega) hz) (by omega) (Nat.le_refl _) (Nat.le_refl _) rfl (Nat.le_of_ble_eq_true rfl) (fun r S1 hp => ?_)
        obtain ⟨rfl, rfl⟩ := hp
        show AW l G mX0_firstClash (d + 2) (az_F G Post) 0 0 50 [some (.ref o), some (.ref s0), some (.int (nI n)), some (.int (nI N)), some (.int (nI i9))] [.long (zat sg la s0 ((2 * nI i9) + 1)), .long (zat sg la s0 (2 * nI i9)), .ref o] (sh, (zB sg o (nI N) (zcl N (fun k => zat sg la s0 (2 * nI k)) (fun k => zat sg la s0 (2 * nI k + 1)) i9) (sg (o + 2))), la)
        refine A_callV (n := 0) dX0_firstClash_50 kvX0_putAbove mlX0_43 rfl (az_rc_obj clX0 (hB 0 _ rfl)) (c_X0_putAbove l G d sh sg la o N (zcl N (fun k => zat sg la s0 (2 * nI k)) (fun k => zat sg la s0 (2 * nI k + 1)) i9) (sg (o + 2)) (zat sg la s0 (2 * nI i9)) (zat sg la s0 ((2 * nI i9) + 1)) hB hN) (by omega) (Nat.le_refl _) (Nat.le_refl _) rfl (Nat.le_of_ble_eq_true rfl) (fun r S1 hp => ?_)
        obtain ⟨rfl, rfl⟩ := hp
        show AW l G mX0_firstClash (d + 2) (az_F G Post) 0 0 53 [some (.ref o), some (.ref s0), some (.int (nI n)), some (.int (nI N)), some (.int (nI i9))] [.int (b2i (zpg N (zcl N (fun k => zat sg la s0 (2 * nI k)) (fun k => zat sg la s0 (2 * nI k + 1)) i9) (zat sg la s0 (2 * nI i9)) (zat sg la s0 ((2 * nI i9) + 1)) = true))] (sh, (zB sg o (nI N) (zpp N (zcl N (fun k => zat sg la s0 (2 * nI k)) (fun k => zat sg la s0 (2 * nI k + 1)) i9) (zat sg la s0 (2 * nI i9)) (zat sg la s0 ((2 * nI i9) + 1))) (sg (o + 2))), la)
        refine A_if_ne (tgt := 59) dX0_firstClash_53 rfl (fun h_3 => ?_) (fun h_3 => ?_)
        · skip
          have h_3' := b2i_n.mp h_3
          refine B_sg (show _ = (zB sg o (nI N) (zcl N (fun k => zat sg la s0 (2 * nI k)) (fun k => zat sg la s0 (2 * nI k + 1)) (i9 + 1)) (sg (o + 2))) from congrArg (fun z => zB sg o (nI N) z _) (zpp_t (b2i_n.mp h_3))) ?_
          refine A_iinc (v := nI (i9 + 1)) (lo2 := [some (.ref o), some (.ref s0), some (.int (nI n)), some (.int (nI N)), some (.int (nI (i9 + 1)))]) dX0_firstClash_59 rfl (nI_1 i9) (by decide) rfl ?_
          refine A_goto (tgt := 25) dX0_firstClash_62 rfl ?_
          refine ih (i9 + 1) _ (by omega) (lt_s hno (by unfold zclB; rw [b2i_n.mp h_3]; rfl)) ?_
          · skip
            rfl
        · skip
          have h_3' := b2i_0.mp h_3
          refine A_iload dX0_firstClash_56 rfl ?_
          have hzc : zclash N (fun k => zat sg la s0 (2 * nI k)) (fun k => zat sg la s0 (2 * nI k + 1)) n = some i9 := zfind_some (by omega) (by unfold zclB; rw [Bool.eq_false_iff.mpr (b2i_0.mp h_3)]; rfl) hno
          refine A_iret dX0_firstClash_58 rfl (hP _ _ ⟨congrArg (fun z => some (Value.int z)) ?_, _, rfl, (fun q => by rw [hzc] at q; cases q), fun j hj => by rw [zpp_f (Bool.eq_false_iff.mpr (b2i_0.mp h_3))]; exact zcl_t (B := fun _ => 0) _ _ _ _ (by omega)⟩)
          (rw [hzc]; rfl)
  exact loop (n) 0 _ (by omega) lt_0 (rfl)
def zunb (B : Nat → Int32) (N : Nat) : Int32 := ((1 : Int32) <<< (nI N &&& 31)) - 1 &&& (zors B N ^^^ (-1))
set_option maxHeartbeats 600000 in
set_option maxRecDepth 100000 in
theorem c_X0_underNobody (l : Launch) (G : az_Gh) (d : Nat) (sh : List az_Sh) (sg : Nat → Nat → Int32) (la : Nat → Nat → Int64) (o N : Nat) (B W : Nat → Int32) (hB : az_at sh o (lyB o)) (hN : N ≤ 8) : FM l G (d) mX0_underNobody [.ref o] (sh, (zB sg o (nI N) B W), la) (some (.int (zunb B N))) (sh, (zB sg o (nI N) B W), la) := by
  refine az_fm knX0_underNobody (Nat.le_of_ble_eq_true rfl) rfl (fun Post hP => ?_)
  show AW l G mX0_underNobody (d) (az_F G Post) 0 0 0 [some (.ref o), none, none] [] (sh, (zB sg o (nI N) B W), la)
  refine A_iconst (v := 0) dX0_underNobody_0 (by decide) ?_
  refine A_istore_n (lo2 := [some (.ref o), some (.int 0), none]) dX0_underNobody_1 rfl (by decide) rfl ?_
  refine A_iconst (v := 0) dX0_underNobody_2 (by decide) ?_
  refine A_istore_n (lo2 := [some (.ref o), some (.int 0), some (.int 0)]) dX0_underNobody_3 rfl (by decide) rfl ?_
  have loop : ∀ (q_i9 i9 : Nat) (x1 : Int32), i9 + q_i9 = N → x1 = zors B i9 → AW l G mX0_underNobody (d) (az_F G Post) 0 0 4 [some (.ref o), some (.int x1), some (.int (nI i9))] [] (sh, (zB sg o (nI N) B W), la) := by
    intro q_i9
    induction q_i9 with
    | zero =>
      intro i9 x1 hi_i9  e_x1
      have hN_i9 : i9 = N := by omega
      subst i9
      refine A_iload_n dX0_underNobody_4 rfl rfl ?_
      refine A_aload_n dX0_underNobody_5 rfl rfl ?_
      refine B_getV (nI N) dX0_underNobody_6 flX0_18 (hB 0 _ rfl) rfl (zB_k _ _ _ _ _) ?_
      refine A_icmp_ge (tgt := 27) dX0_underNobody_9 rfl (fun h_1 => ?_) (fun h_1 => ?_)
      · skip
        refine A_iconst (v := 1) dX0_underNobody_27 (by decide) ?_
        refine A_aload_n dX0_underNobody_28 rfl rfl ?_
        refine B_getV (nI N) dX0_underNobody_29 flX0_18 (hB 0 _ rfl) rfl (zB_k _ _ _ _ _) ?_
        refine A_ishl dX0_underNobody_32 ?_
        refine A_iconst (v := 1) dX0_underNobody_33 (by decide) ?_
        refine A_isub dX0_underNobody_34 ?_
        refine A_iload_n dX0_underNobody_35 rfl rfl ?_
        refine A_iconst (v := (-1)) dX0_underNobody_36 (by decide) ?_
        refine A_ixor dX0_underNobody_37 ?_
        refine A_iand dX0_underNobody_38 ?_
        refine A_iret dX0_underNobody_39 rfl (az_pi hP ?_ (rfl))
        (rw [e_x1]; rfl)
      · skip
        exact absurd (Int32.le_refl _) h_1
    | succ q_i9 ih =>
      intro i9 x1 hi_i9  e_x1
      refine A_iload_n dX0_underNobody_4 rfl rfl ?_
      refine A_aload_n dX0_underNobody_5 rfl rfl ?_
      refine B_getV (nI N) dX0_underNobody_6 flX0_18 (hB 0 _ rfl) rfl (zB_k _ _ _ _ _) ?_
      refine A_icmp_ge (tgt := 27) dX0_underNobody_9 rfl (fun h_2 => ?_) (fun h_2 => ?_)
      · skip
        exact absurd h_2 (nI_ge (by omega) (by omega))
      · skip
        refine A_iload_n dX0_underNobody_12 rfl rfl ?_
        refine A_aload_n dX0_underNobody_13 rfl rfl ?_
        refine B_getR (r := (o + 1)) dX0_underNobody_14 flX0_9 (hB 0 _ rfl) rfl ?_
        refine A_iload_n dX0_underNobody_17 rfl rfl ?_
        refine B_ialdV (i := i9) (B i9) dX0_underNobody_18 (hB 1 _ rfl) (by decide) (rfl) (by omega) (congrFun (zB_1 _ _ _ _ _) _) ?_
        refine A_ior dX0_underNobody_19 ?_
        refine A_istore_n (lo2 := [some (.ref o), some (.int (x1 ||| B i9)), some (.int (nI i9))]) dX0_underNobody_20 rfl (by decide) rfl ?_
        refine A_iinc (v := nI (i9 + 1)) (lo2 := [some (.ref o), some (.int (x1 ||| B i9)), some (.int (nI (i9 + 1)))]) dX0_underNobody_21 rfl (nI_1 i9) (by decide) rfl ?_
        refine A_goto (tgt := 4) dX0_underNobody_24 rfl ?_
        refine ih (i9 + 1) _ (by omega) ?_
        · skip
          rw [e_x1]; rfl
  exact loop (N) 0 _ (by omega) (rfl)
theorem zun_i (B : Nat → Int32) (x y : Int32) (i : Nat) : (if nI i = x then (if y < 0 then B i else B i ||| ((1 : Int32) <<< (y &&& 31))) else B i) = zun B x y i := by
  unfold zun
  by_cases h : nI i = x
  · rw [if_pos h]
    by_cases h2 : y < 0
    · rw [if_pos h2, if_neg (fun q => absurd q.2 (Int32.not_le.mpr h2))]
    · rw [if_neg h2, if_pos ⟨h, Int32.not_lt.mp h2⟩]
  · rw [if_neg h, if_neg (fun q => h q.1)]
theorem zst_t {B : Nat → Int32} {x y : Int32} {s i : Nat} (h1 : (nI s >>> (nI i &&& 31)) &&& 1 = 0) (h2 : zun B x y i &&& (nI s ^^^ (-1)) = 0) : zst B x y s i = true := by unfold zst; rw [decide_eq_true h1, decide_eq_true h2]; rfl
theorem zst_1 {B : Nat → Int32} {x y : Int32} {s i : Nat} (h1 : ¬ (nI s >>> (nI i &&& 31)) &&& 1 = 0) : ¬ zst B x y s i = true := by unfold zst; rw [decide_eq_false h1, Bool.false_and]; intro q; cases q
theorem zst_2 {B : Nat → Int32} {x y : Int32} {s i : Nat} (h2 : ¬ zun B x y i &&& (nI s ^^^ (-1)) = 0) : ¬ zst B x y s i = true := by unfold zst; rw [decide_eq_false h2, Bool.and_false]; intro q; cases q
theorem nI_pm (N : Nat) : nI (2 ^ N) - 1 = nI (2 ^ N - 1) := by
  have h : 2 ^ N = 2 ^ N - 1 + 1 := by have := Nat.two_pow_pos N; omega
  rw [h]
  exact nI_pred _
set_option maxHeartbeats 600000 in
set_option maxRecDepth 100000 in
theorem c_X0_countOrders (l : Launch) (G : az_Gh) (d : Nat) (sh : List az_Sh) (sg : Nat → Nat → Int32) (la : Nat → Nat → Int64) (o N : Nat) (B W : Nat → Int32) (x y : Int32) (hB : az_at sh o (lyB o)) (hN : N ≤ 8) (hW : ∀ j, 256 ≤ j → W j = 0) : FM l G (d + 1) mX0_countOrders [.ref o, .int x, .int y] (sh, (zB sg o (nI N) B W), la) (some (.int (zco B x y N))) (sh, (zB sg o (nI N) B (zcs B x y N (2 ^ N))), la) := by
  refine az_fm knX0_countOrders (Nat.le_of_ble_eq_true rfl) rfl (fun Post hP => ?_)
  show AW l G mX0_countOrders (d + 1) (az_F G Post) 0 0 0 [some (.ref o), some (.int x), some (.int y), none, none, none, none] [] (sh, (zB sg o (nI N) B W), la)
  have hp2 := p2_8 hN
  refine A_iconst (v := 1) dX0_countOrders_0 (by decide) ?_
  refine A_aload_n dX0_countOrders_1 rfl rfl ?_
  refine B_getV (nI N) dX0_countOrders_2 flX0_18 (hB 0 _ rfl) rfl (zB_k _ _ _ _ _) ?_
  refine A_ishl dX0_countOrders_5 ?_
  refine A_istore_n (lo2 := [some (.ref o), some (.int x), some (.int y), some (.int (1 <<< (nI N &&& 31))), none, none, none]) dX0_countOrders_6 rfl (by decide) rfl ?_
  refine A_aload_n dX0_countOrders_7 rfl rfl ?_
  refine B_getR (r := (o + 2)) dX0_countOrders_8 flX0_15 (hB 0 _ rfl) rfl ?_
  refine A_iconst (v := 0) dX0_countOrders_11 (by decide) ?_
  refine A_callS (n := 0) dX0_countOrders_12 ksJ7_fill_53178 mlX0_31 rfl (c_J7_fill_53178 l G d sh (zB sg o (nI N) B W) la (o + 2) 256 0 (hB 2 _ rfl) (by omega)) (by omega) (Nat.le_refl _) (Nat.le_refl _) rfl (Nat.le_of_ble_eq_true rfl) (fun r S1 hp => ?_)
  obtain ⟨rfl, rfl⟩ := hp
  show AW l G mX0_countOrders (d + 1) (az_F G Post) 0 0 15 [some (.ref o), some (.int x), some (.int y), some (.int (1 <<< (nI N &&& 31))), none, none, none] [] (sh, (va_up (zB sg o (nI N) B W) (o + 2) (zfill ((zB sg o (nI N) B W) (o + 2)) 256 0)), la)
  refine B_sg (show _ = (zB sg o (nI N) B (fun _ => 0)) from zB_w2.trans (congrArg (fun z => zB sg o (nI N) B z) (((congrArg (fun z => zfill z 256 0) (zB_2 _ _ _ _ _)).trans (zfill_z hW)).trans zI0.symm))) ?_
  refine A_aload_n dX0_countOrders_15 rfl rfl ?_
  refine B_getR (r := (o + 2)) dX0_countOrders_16 flX0_15 (hB 0 _ rfl) rfl ?_
  refine A_iconst (v := 0) dX0_countOrders_19 (by decide) ?_
  refine A_iconst (v := 1) dX0_countOrders_20 (by decide) ?_
  refine B_iast (i := 0) dX0_countOrders_21 (hB 2 _ rfl) (by decide) (rfl) (by decide) ?_
  refine B_sg (show _ = (zB sg o (nI N) B (zcs B x y N 0)) from zB_e2) ?_
  refine A_iconst (v := 0) dX0_countOrders_22 (by decide) ?_
  refine A_istore (lo2 := [some (.ref o), some (.int x), some (.int y), some (.int (1 <<< (nI N &&& 31))), some (.int 0), none, none]) dX0_countOrders_23 (by decide) rfl ?_
  have loop : ∀ (q_i9 i9 : Nat) (s1 : Nat → Nat → Int32), i9 + q_i9 = 2 ^ N → s1 = (zB sg o (nI N) B (zcs B x y N i9)) → AW l G mX0_countOrders (d + 1) (az_F G Post) 0 0 25 [some (.ref o), some (.int x), some (.int y), some (.int (1 <<< (nI N &&& 31))), some (.int (nI i9)), none, none] [] (sh, s1, la) := by
    intro q_i9
    induction q_i9 with
    | zero =>
      intro i9 s1 hi_i9  e_s1
      have hN_i9 : i9 = 2 ^ N := by omega
      subst i9
      refine A_iload dX0_countOrders_25 rfl ?_
      refine A_iload_n dX0_countOrders_27 rfl rfl ?_
      refine A_icmp_ge (tgt := 140) dX0_countOrders_28 rfl (fun h_1 => ?_) (fun h_1 => ?_)
      · skip
        refine A_aload_n dX0_countOrders_140 rfl rfl ?_
        refine B_getR (r := (o + 2)) dX0_countOrders_141 flX0_15 (hB 0 _ rfl) rfl ?_
        refine A_iload_n dX0_countOrders_144 rfl rfl ?_
        refine A_iconst (v := 1) dX0_countOrders_145 (by decide) ?_
        refine A_isub dX0_countOrders_146 ?_
        refine B_ialdV (i := (2 ^ N - 1)) (zcs B x y N (2 ^ N) (2 ^ N - 1)) dX0_countOrders_147 (hB 2 _ rfl) (by decide) (by rw [sh1 hN]; exact nI_pm N) (by omega) (by rw [e_s1]; exact congrFun (zB_2 _ _ _ _ _) _) ?_
        refine A_iret dX0_countOrders_148 rfl (az_pi hP ?_ (by rw [e_s1]))
        rfl
      · skip
        exact absurd (by rw [sh1 hN]; exact Int32.le_refl _) h_1
    | succ q_i9 ih =>
      intro i9 s1 hi_i9  e_s1
      refine A_iload dX0_countOrders_25 rfl ?_
      refine A_iload_n dX0_countOrders_27 rfl rfl ?_
      refine A_icmp_ge (tgt := 140) dX0_countOrders_28 rfl (fun h_2 => ?_) (fun h_2 => ?_)
      · skip
        exact absurd (show nI (2 ^ N) ≤ nI i9 from by rw [← sh1 hN]; exact h_2) (nI_ge (by omega) (by omega))
      · skip
        refine A_iconst (v := 0) dX0_countOrders_31 (by decide) ?_
        refine A_istore (lo2 := [some (.ref o), some (.int x), some (.int y), some (.int (1 <<< (nI N &&& 31))), some (.int (nI i9)), some (.int 0), none]) dX0_countOrders_32 (by decide) rfl ?_
        have loop2 : ∀ (q_j9 j9 : Nat) (s2 : Nat → Nat → Int32), j9 + q_j9 = N → s2 = (zB sg o (nI N) B (zci B x y i9 (zcs B x y N i9) j9)) → AW l G mX0_countOrders (d + 1) (az_F G Post) 0 0 34 [some (.ref o), some (.int x), some (.int y), some (.int (1 <<< (nI N &&& 31))), some (.int (nI i9)), some (.int (nI j9)), none] [] (sh, s2, la) := by
          intro q_j9
          induction q_j9 with
          | zero =>
            intro j9 s2 hi_j9  e_s2
            have hN_j9 : j9 = N := by omega
            subst j9
            refine A_iload dX0_countOrders_34 rfl ?_
            refine A_aload_n dX0_countOrders_36 rfl rfl ?_
            refine B_getV (nI N) dX0_countOrders_37 flX0_18 (hB 0 _ rfl) rfl (by rw [e_s2]; exact zB_k _ _ _ _ _) ?_
            refine A_icmp_ge (tgt := 134) dX0_countOrders_40 rfl (fun h_3 => ?_) (fun h_3 => ?_)
            · skip
              refine A_iinc (v := nI (i9 + 1)) (lo2 := [some (.ref o), some (.int x), some (.int y), some (.int (1 <<< (nI N &&& 31))), some (.int (nI (i9 + 1))), some (.int (nI N)), none]) dX0_countOrders_134 rfl (nI_1 i9) (by decide) rfl ?_
              refine A_goto (tgt := 25) dX0_countOrders_137 rfl ?_
              refine A_forget (lo2 := [some (.ref o), some (.int x), some (.int y), some (.int (1 <<< (nI N &&& 31))), some (.int (nI (i9 + 1))), none, none]) ⟨rfl, rfl, rfl, rfl, rfl, trivial⟩ ?_
              refine ih (i9 + 1) _ (by omega) ?_
              · skip
                rw [e_s2]; rfl
            · skip
              exact absurd (Int32.le_refl _) h_3
          | succ q_j9 ih_j9 =>
            intro j9 s2 hi_j9  e_s2
            refine A_iload dX0_countOrders_34 rfl ?_
            refine A_aload_n dX0_countOrders_36 rfl rfl ?_
            refine B_getV (nI N) dX0_countOrders_37 flX0_18 (hB 0 _ rfl) rfl (by rw [e_s2]; exact zB_k _ _ _ _ _) ?_
            refine A_icmp_ge (tgt := 134) dX0_countOrders_40 rfl (fun h_4 => ?_) (fun h_4 => ?_)
            · skip
              exact absurd h_4 (nI_ge (by omega) (by omega))
            · skip
              refine A_aload_n dX0_countOrders_43 rfl rfl ?_
              refine B_getR (r := (o + 2)) dX0_countOrders_44 flX0_15 (hB 0 _ rfl) rfl ?_
              refine A_iload dX0_countOrders_47 rfl ?_
              refine B_ialdV (i := i9) (zci B x y i9 (zcs B x y N i9) j9 i9) dX0_countOrders_49 (hB 2 _ rfl) (by decide) (rfl) (by omega) (by rw [e_s2]; exact congrFun (zB_2 _ _ _ _ _) _) ?_
              refine A_if_eq (tgt := 134) dX0_countOrders_50 rfl (fun h_5 => ?_) (fun h_5 => ?_)
              · skip
                refine A_iinc (v := nI (i9 + 1)) (lo2 := [some (.ref o), some (.int x), some (.int y), some (.int (1 <<< (nI N &&& 31))), some (.int (nI (i9 + 1))), some (.int (nI j9)), none]) dX0_countOrders_134 rfl (nI_1 i9) (by decide) rfl ?_
                refine A_goto (tgt := 25) dX0_countOrders_137 rfl ?_
                refine A_forget (lo2 := [some (.ref o), some (.int x), some (.int y), some (.int (1 <<< (nI N &&& 31))), some (.int (nI (i9 + 1))), none, none]) ⟨rfl, rfl, rfl, rfl, rfl, trivial⟩ ?_
                refine ih (i9 + 1) _ (by omega) ?_
                · skip
                  rw [e_s2]; exact congrArg (fun z => zB sg o (nI N) B z) ((zci_z ((zci_s (B := B) (x := x) (y := y) (W := zcs B x y N i9) (s := i9) (by omega) j9 (by omega)).symm.trans h_5) _).trans (zci_z ((zci_s (B := B) (x := x) (y := y) (W := zcs B x y N i9) (s := i9) (by omega) j9 (by omega)).symm.trans h_5) _).symm)
              · skip
                refine az_jn (P := fun z : Int32 => AW l G mX0_countOrders (d + 1) (az_F G Post) 0 0 84 [some (.ref o), some (.int x), some (.int y), some (.int (1 <<< (nI N &&& 31))), some (.int (nI i9)), some (.int (nI j9)), none] [.int z] (sh, s2, la)) (if (nI j9) = x then (if y < 0 then (B j9) else (B j9 ||| (1 <<< (y &&& 31)))) else (B j9)) ?_ (fun hJ => ?_)
                · skip
                  refine B_top (zun_i B x y j9) ?_
                  refine A_istore (lo2 := [some (.ref o), some (.int x), some (.int y), some (.int (1 <<< (nI N &&& 31))), some (.int (nI i9)), some (.int (nI j9)), some (.int (zun B x y j9))]) dX0_countOrders_84 (by decide) rfl ?_
                  refine A_iload dX0_countOrders_86 rfl ?_
                  refine A_iload dX0_countOrders_88 rfl ?_
                  refine A_ishr dX0_countOrders_90 ?_
                  refine A_iconst (v := 1) dX0_countOrders_91 (by decide) ?_
                  refine A_iand dX0_countOrders_92 ?_
                  refine A_if_ne (tgt := 128) dX0_countOrders_93 rfl (fun h_6 => ?_) (fun h_6 => ?_)
                  · skip
                    refine A_iinc (v := nI (j9 + 1)) (lo2 := [some (.ref o), some (.int x), some (.int y), some (.int (1 <<< (nI N &&& 31))), some (.int (nI i9)), some (.int (nI (j9 + 1))), some (.int (zun B x y j9))]) dX0_countOrders_128 rfl (nI_1 j9) (by decide) rfl ?_
                    refine A_goto (tgt := 34) dX0_countOrders_131 rfl ?_
                    refine A_forget (lo2 := [some (.ref o), some (.int x), some (.int y), some (.int (1 <<< (nI N &&& 31))), some (.int (nI i9)), some (.int (nI (j9 + 1))), none]) ⟨rfl, rfl, rfl, rfl, rfl, rfl, trivial⟩ ?_
                    refine ih_j9 (j9 + 1) _ (by omega) ?_
                    · skip
                      rw [e_s2, zci_n (zst_1 h_6)]
                  · skip
                    refine A_iload dX0_countOrders_96 rfl ?_
                    refine A_iload dX0_countOrders_98 rfl ?_
                    refine A_iconst (v := (-1)) dX0_countOrders_100 (by decide) ?_
                    refine A_ixor dX0_countOrders_101 ?_
                    refine A_iand dX0_countOrders_102 ?_
                    refine A_if_ne (tgt := 128) dX0_countOrders_103 rfl (fun h_7 => ?_) (fun h_7 => ?_)
                    · skip
                      refine A_iinc (v := nI (j9 + 1)) (lo2 := [some (.ref o), some (.int x), some (.int y), some (.int (1 <<< (nI N &&& 31))), some (.int (nI i9)), some (.int (nI (j9 + 1))), some (.int (zun B x y j9))]) dX0_countOrders_128 rfl (nI_1 j9) (by decide) rfl ?_
                      refine A_goto (tgt := 34) dX0_countOrders_131 rfl ?_
                      refine A_forget (lo2 := [some (.ref o), some (.int x), some (.int y), some (.int (1 <<< (nI N &&& 31))), some (.int (nI i9)), some (.int (nI (j9 + 1))), none]) ⟨rfl, rfl, rfl, rfl, rfl, rfl, trivial⟩ ?_
                      refine ih_j9 (j9 + 1) _ (by omega) ?_
                      · skip
                        rw [e_s2, zci_n (zst_2 h_7)]
                    · skip
                      refine A_aload_n dX0_countOrders_106 rfl rfl ?_
                      refine B_getR (r := (o + 2)) dX0_countOrders_107 flX0_15 (hB 0 _ rfl) rfl ?_
                      refine A_iload dX0_countOrders_110 rfl ?_
                      refine A_iconst (v := 1) dX0_countOrders_112 (by decide) ?_
                      refine A_iload dX0_countOrders_113 rfl ?_
                      refine A_ishl dX0_countOrders_115 ?_
                      refine A_ior dX0_countOrders_116 ?_
                      refine A_dup2 dX0_countOrders_117 rfl rfl ?_
                      refine B_ialdV (i := (i9 ||| 2 ^ j9)) (zci B x y i9 (zcs B x y N i9) j9 (i9 ||| 2 ^ j9)) dX0_countOrders_118 (hB 2 _ rfl) (by decide) (zor_n i9 (by omega) j9 (by omega)) (zor_l i9 (by omega) j9 (by omega)) (by rw [e_s2]; exact congrFun (zB_2 _ _ _ _ _) _) ?_
                      refine A_aload_n dX0_countOrders_119 rfl rfl ?_
                      refine B_getR (r := (o + 2)) dX0_countOrders_120 flX0_15 (hB 0 _ rfl) rfl ?_
                      refine A_iload dX0_countOrders_123 rfl ?_
                      refine B_ialdV (i := i9) (zcs B x y N i9 i9) dX0_countOrders_125 (hB 2 _ rfl) (by decide) (rfl) (by omega) (by rw [e_s2]; exact (congrFun (zB_2 _ _ _ _ _) _).trans (zci_s (by omega) j9 (by omega))) ?_
                      refine A_iadd dX0_countOrders_126 ?_
                      refine B_iast (i := (i9 ||| 2 ^ j9)) dX0_countOrders_127 (hB 2 _ rfl) (by decide) (zor_n i9 (by omega) j9 (by omega)) (zor_l i9 (by omega) j9 (by omega)) ?_
                      refine A_iinc (v := nI (j9 + 1)) (lo2 := [some (.ref o), some (.int x), some (.int y), some (.int (1 <<< (nI N &&& 31))), some (.int (nI i9)), some (.int (nI (j9 + 1))), some (.int (zun B x y j9))]) dX0_countOrders_128 rfl (nI_1 j9) (by decide) rfl ?_
                      refine A_goto (tgt := 34) dX0_countOrders_131 rfl ?_
                      refine A_forget (lo2 := [some (.ref o), some (.int x), some (.int y), some (.int (1 <<< (nI N &&& 31))), some (.int (nI i9)), some (.int (nI (j9 + 1))), none]) ⟨rfl, rfl, rfl, rfl, rfl, rfl, trivial⟩ ?_
                      refine ih_j9 (j9 + 1) _ (by omega) ?_
                      · skip
                        rw [e_s2, zB_e2, zci_y (zst_t h_6 h_7)]
                · skip
                  refine A_iload dX0_countOrders_53 rfl ?_
                  refine A_iload_n dX0_countOrders_55 rfl rfl ?_
                  refine A_icmp_ne (tgt := 77) dX0_countOrders_56 rfl (fun h_8 => ?_) (fun h_8 => ?_)
                  · skip
                    refine A_aload_n dX0_countOrders_77 rfl rfl ?_
                    refine B_getR (r := (o + 1)) dX0_countOrders_78 flX0_9 (hB 0 _ rfl) rfl ?_
                    refine A_iload dX0_countOrders_81 rfl ?_
                    refine B_ialdV (i := j9) (B j9) dX0_countOrders_83 (hB 1 _ rfl) (by decide) (rfl) (by omega) (by rw [e_s2]; exact congrFun (zB_1 _ _ _ _ _) _) ?_
                    rw [if_neg h_8] at hJ
                    exact hJ
                  · skip
                    refine A_iload_n dX0_countOrders_59 rfl rfl ?_
                    refine A_if_lt (tgt := 77) dX0_countOrders_60 rfl (fun h_9 => ?_) (fun h_9 => ?_)
                    · skip
                      refine A_aload_n dX0_countOrders_77 rfl rfl ?_
                      refine B_getR (r := (o + 1)) dX0_countOrders_78 flX0_9 (hB 0 _ rfl) rfl ?_
                      refine A_iload dX0_countOrders_81 rfl ?_
                      refine B_ialdV (i := j9) (B j9) dX0_countOrders_83 (hB 1 _ rfl) (by decide) (rfl) (by omega) (by rw [e_s2]; exact congrFun (zB_1 _ _ _ _ _) _) ?_
                      rw [if_pos h_8, if_pos h_9] at hJ
                      exact hJ
                    · skip
                      refine A_aload_n dX0_countOrders_63 rfl rfl ?_
                      refine B_getR (r := (o + 1)) dX0_countOrders_64 flX0_9 (hB 0 _ rfl) rfl ?_
                      refine A_iload dX0_countOrders_67 rfl ?_
                      refine B_ialdV (i := j9) (B j9) dX0_countOrders_69 (hB 1 _ rfl) (by decide) (rfl) (by omega) (by rw [e_s2]; exact congrFun (zB_1 _ _ _ _ _) _) ?_
                      refine A_iconst (v := 1) dX0_countOrders_70 (by decide) ?_
                      refine A_iload_n dX0_countOrders_71 rfl rfl ?_
                      refine A_ishl dX0_countOrders_72 ?_
                      refine A_ior dX0_countOrders_73 ?_
                      refine A_goto (tgt := 84) dX0_countOrders_74 rfl ?_
                      rw [if_pos h_8, if_neg h_9] at hJ
                      exact hJ
        exact loop2 (N) 0 _ (by omega) (by rw [e_s1]; rfl)
  exact loop (2 ^ N) 0 _ (by omega) (rfl)
theorem zci_t {B : Nat → Int32} {x y : Int32} {s : Nat} {W : Nat → Int32} (hs : s < 256) (h : ∀ j, 256 ≤ j → W j = 0) : ∀ i, i ≤ 8 → ∀ j, 256 ≤ j → zci B x y s W i j = 0
  | 0, _, j, hj => h j hj
  | i + 1, hi, j, hj => by
    unfold zci
    by_cases hq : zst B x y s i = true
    · rw [if_pos hq, az_up_ne (fun q => by have := zor_l s hs i (by omega); omega)]
      exact zci_t hs h i (by omega) j hj
    · rw [if_neg hq]
      exact zci_t hs h i (by omega) j hj
theorem zcs_t {B : Nat → Int32} {x y : Int32} {N : Nat} (hN : N ≤ 8) : ∀ s, s ≤ 256 → ∀ j, 256 ≤ j → zcs B x y N s j = 0
  | 0, _, j, hj => by show va_up _ 0 1 j = 0; rw [az_up_ne (by omega)]
  | s + 1, hs, j, hj => zci_t (by omega) (zcs_t hN s (by omega)) N hN j hj
theorem zbj_s {B : Nat → Int32} {N i j : Nat} {z : Int32 × Int32} (h : i + 1 ≤ j) : zbj B N i z (j + 1 - (i + 1)) = zbs B N i j (zbj B N i z (j - (i + 1))) := by
  rw [show j + 1 - (i + 1) = (j - (i + 1)) + 1 by omega]
  show zbs B N i (i + 1 + (j - (i + 1))) _ = _
  rw [show i + 1 + (j - (i + 1)) = j by omega]
theorem zbs_a {B : Nat → Int32} {N i j : Nat} {z : Int32 × Int32} (h : zbl B i j = true ∨ zbl B j i = true) : zbs B N i j z = z := if_pos h
theorem zbs_b {B : Nat → Int32} {N i j : Nat} {z : Int32 × Int32} (h : ¬ (zbl B i j = true ∨ zbl B j i = true)) (h2 : z.1 = -1 ∨ mxI (zco B (nI i) (nI j) N) (zco B (-1) (-1) N - zco B (nI i) (nI j) N) < z.2) : zbs B N i j z = (10 * nI i + nI j, mxI (zco B (nI i) (nI j) N) (zco B (-1) (-1) N - zco B (nI i) (nI j) N)) := (if_neg h).trans (if_pos h2)
theorem zbs_c {B : Nat → Int32} {N i j : Nat} {z : Int32 × Int32} (h : ¬ (zbl B i j = true ∨ zbl B j i = true)) (h2 : ¬ (z.1 = -1 ∨ mxI (zco B (nI i) (nI j) N) (zco B (-1) (-1) N - zco B (nI i) (nI j) N) < z.2)) : zbs B N i j z = z := (if_neg h).trans (if_neg h2)
set_option maxHeartbeats 600000 in
set_option maxRecDepth 100000 in
theorem c_X0_bestTwo (l : Launch) (G : az_Gh) (d : Nat) (sh : List az_Sh) (sg : Nat → Nat → Int32) (la : Nat → Nat → Int64) (o N : Nat) (B W : Nat → Int32) (hB : az_at sh o (lyB o)) (hN : N ≤ 8) (hW : ∀ j, 256 ≤ j → W j = 0) : AM l G (d + 2) mX0_bestTwo [.ref o] (sh, zB sg o (nI N) B W, la) 0 0 (fun r1 S1 => r1 = some (.int (zbo B N N).1) ∧ ∃ W2, (∀ j, 256 ≤ j → W2 j = 0) ∧ S1 = (sh, zB sg o (nI N) B W2, la)) := by
  refine az_am knX0_bestTwo (Nat.le_of_ble_eq_true rfl) rfl (fun Post hP => ?_)
  show AW l G mX0_bestTwo (d + 2) (az_F G Post) 0 0 0 [some (.ref o), none, none, none, none, none, none, none] [] (sh, (zB sg o (nI N) B W), la)
  have hp2 := p2_8 hN
  refine A_aload_n dX0_bestTwo_0 rfl rfl ?_
  refine A_iconst (v := (-1)) dX0_bestTwo_1 (by decide) ?_
  refine A_iconst (v := (-1)) dX0_bestTwo_2 (by decide) ?_
  refine A_callV (n := 0) dX0_bestTwo_3 kvX0_countOrders mlX0_51 rfl (az_rc_obj clX0 (hB 0 _ rfl)) (c_X0_countOrders l G d sh sg la o N B W (-1) (-1) hB hN hW) (by omega) (Nat.le_refl _) (Nat.le_refl _) rfl (Nat.le_of_ble_eq_true rfl) (fun r S1 hp => ?_)
  obtain ⟨rfl, rfl⟩ := hp
  show AW l G mX0_bestTwo (d + 2) (az_F G Post) 0 0 6 [some (.ref o), none, none, none, none, none, none, none] [.int (zco B (-1) (-1) N)] (sh, (zB sg o (nI N) B (zcs B (-1) (-1) N (2 ^ N))), la)
  refine A_istore_n (lo2 := [some (.ref o), some (.int (zco B (-1) (-1) N)), none, none, none, none, none, none]) dX0_bestTwo_6 rfl (by decide) rfl ?_
  refine A_iconst (v := (-1)) dX0_bestTwo_7 (by decide) ?_
  refine A_istore_n (lo2 := [some (.ref o), some (.int (zco B (-1) (-1) N)), some (.int (-1)), none, none, none, none, none]) dX0_bestTwo_8 rfl (by decide) rfl ?_
  refine A_iconst (v := 0) dX0_bestTwo_9 (by decide) ?_
  refine A_istore_n (lo2 := [some (.ref o), some (.int (zco B (-1) (-1) N)), some (.int (-1)), some (.int 0), none, none, none, none]) dX0_bestTwo_10 rfl (by decide) rfl ?_
  refine A_iconst (v := 0) dX0_bestTwo_11 (by decide) ?_
  refine A_istore (lo2 := [some (.ref o), some (.int (zco B (-1) (-1) N)), some (.int (-1)), some (.int 0), some (.int 0), none, none, none]) dX0_bestTwo_12 (by decide) rfl ?_
  have loop : ∀ (q_i9 i9 : Nat) (w9 : Nat → Int32) (x2 : Int32) (x3 : Int32), i9 + q_i9 = N → (∀ j, 256 ≤ j → w9 j = 0) → x2 = (zbo B N i9).1 → x3 = (zbo B N i9).2 → AW l G mX0_bestTwo (d + 2) (az_F G Post) 0 0 14 [some (.ref o), some (.int (zco B (-1) (-1) N)), some (.int x2), some (.int x3), some (.int (nI i9)), none, none, none] [] (sh, (zB sg o (nI N) B w9), la) := by
    intro q_i9
    induction q_i9 with
    | zero =>
      intro i9 w9 x2 x3 hi_i9 hw9 e_x2 e_x3
      have hN_i9 : i9 = N := by omega
      subst i9
      refine A_iload dX0_bestTwo_14 rfl ?_
      refine A_aload_n dX0_bestTwo_16 rfl rfl ?_
      refine B_getV (nI N) dX0_bestTwo_17 flX0_18 (hB 0 _ rfl) rfl (zB_k _ _ _ _ _) ?_
      refine A_icmp_ge (tgt := 119) dX0_bestTwo_20 rfl (fun h_1 => ?_) (fun h_1 => ?_)
      · skip
        refine A_iload_n dX0_bestTwo_119 rfl rfl ?_
        refine A_iret dX0_bestTwo_120 rfl (hP _ _ ⟨congrArg (fun z => some (Value.int z)) ?_, _, hw9, rfl⟩)
        exact e_x2
      · skip
        exact absurd (Int32.le_refl _) h_1
    | succ q_i9 ih =>
      intro i9 w9 x2 x3 hi_i9 hw9 e_x2 e_x3
      refine A_iload dX0_bestTwo_14 rfl ?_
      refine A_aload_n dX0_bestTwo_16 rfl rfl ?_
      refine B_getV (nI N) dX0_bestTwo_17 flX0_18 (hB 0 _ rfl) rfl (zB_k _ _ _ _ _) ?_
      refine A_icmp_ge (tgt := 119) dX0_bestTwo_20 rfl (fun h_2 => ?_) (fun h_2 => ?_)
      · skip
        exact absurd h_2 (nI_ge (by omega) (by omega))
      · skip
        refine A_iload dX0_bestTwo_23 rfl ?_
        refine A_iconst (v := 1) dX0_bestTwo_25 (by decide) ?_
        refine A_iadd dX0_bestTwo_26 ?_
        refine B_top (nI_1 i9) ?_
        refine A_istore (lo2 := [some (.ref o), some (.int (zco B (-1) (-1) N)), some (.int x2), some (.int x3), some (.int (nI i9)), some (.int (nI (i9 + 1))), none, none]) dX0_bestTwo_27 (by decide) rfl ?_
        have loop2 : ∀ (q_j9 j9 : Nat) (w8 : Nat → Int32) (y2 : Int32) (y3 : Int32), j9 + q_j9 = N → (∀ j, 256 ≤ j → w8 j = 0) → i9 + 1 ≤ j9 → y2 = (zbj B N i9 (zbo B N i9) (j9 - (i9 + 1))).1 → y3 = (zbj B N i9 (zbo B N i9) (j9 - (i9 + 1))).2 → AW l G mX0_bestTwo (d + 2) (az_F G Post) 0 0 29 [some (.ref o), some (.int (zco B (-1) (-1) N)), some (.int y2), some (.int y3), some (.int (nI i9)), some (.int (nI j9)), none, none] [] (sh, (zB sg o (nI N) B w8), la) := by
          intro q_j9
          induction q_j9 with
          | zero =>
            intro j9 w8 y2 y3 hi_j9 hw8 hij e_y2 e_y3
            have hN_j9 : j9 = N := by omega
            subst j9
            refine A_iload dX0_bestTwo_29 rfl ?_
            refine A_aload_n dX0_bestTwo_31 rfl rfl ?_
            refine B_getV (nI N) dX0_bestTwo_32 flX0_18 (hB 0 _ rfl) rfl (zB_k _ _ _ _ _) ?_
            refine A_icmp_ge (tgt := 113) dX0_bestTwo_35 rfl (fun h_3 => ?_) (fun h_3 => ?_)
            · skip
              refine A_iinc (v := nI (i9 + 1)) (lo2 := [some (.ref o), some (.int (zco B (-1) (-1) N)), some (.int y2), some (.int y3), some (.int (nI (i9 + 1))), some (.int (nI N)), none, none]) dX0_bestTwo_113 rfl (nI_1 i9) (by decide) rfl ?_
              refine A_goto (tgt := 14) dX0_bestTwo_116 rfl ?_
              refine A_forget (lo2 := [some (.ref o), some (.int (zco B (-1) (-1) N)), some (.int y2), some (.int y3), some (.int (nI (i9 + 1))), none, none, none]) ⟨rfl, rfl, rfl, rfl, rfl, trivial⟩ ?_
              refine ih (i9 + 1) _ _ _ (by omega) hw8 ?_ ?_
              · skip
                exact e_y2
              · skip
                exact e_y3
            · skip
              exact absurd (Int32.le_refl _) h_3
          | succ q_j9 ih_j9 =>
            intro j9 w8 y2 y3 hi_j9 hw8 hij e_y2 e_y3
            refine A_iload dX0_bestTwo_29 rfl ?_
            refine A_aload_n dX0_bestTwo_31 rfl rfl ?_
            refine B_getV (nI N) dX0_bestTwo_32 flX0_18 (hB 0 _ rfl) rfl (zB_k _ _ _ _ _) ?_
            refine A_icmp_ge (tgt := 113) dX0_bestTwo_35 rfl (fun h_4 => ?_) (fun h_4 => ?_)
            · skip
              exact absurd h_4 (nI_ge (by omega) (by omega))
            · skip
              refine A_aload_n dX0_bestTwo_38 rfl rfl ?_
              refine A_iload dX0_bestTwo_39 rfl ?_
              refine A_iload dX0_bestTwo_41 rfl ?_
              refine A_callV (n := 0) dX0_bestTwo_43 kvX0_isBelow mlX0_47 rfl (az_rc_obj clX0 (hB 0 _ rfl)) (c_X0_isBelow l G (d + 1) sh sg la o N B w8 i9 j9 hB hN (by omega)) (by omega) (Nat.le_refl _) (Nat.le_refl _) rfl (Nat.le_of_ble_eq_true rfl) (fun r S1 hp => ?_)
              obtain ⟨rfl, rfl⟩ := hp
              show AW l G mX0_bestTwo (d + 2) (az_F G Post) 0 0 46 [some (.ref o), some (.int (zco B (-1) (-1) N)), some (.int y2), some (.int y3), some (.int (nI i9)), some (.int (nI j9)), none, none] [.int (b2i (zbl B i9 j9 = true))] (sh, (zB sg o (nI N) B w8), la)
              refine A_if_ne (tgt := 107) dX0_bestTwo_46 rfl (fun h_5 => ?_) (fun h_5 => ?_)
              · skip
                have h_5' := b2i_n.mp h_5
                refine A_iinc (v := nI (j9 + 1)) (lo2 := [some (.ref o), some (.int (zco B (-1) (-1) N)), some (.int y2), some (.int y3), some (.int (nI i9)), some (.int (nI (j9 + 1))), none, none]) dX0_bestTwo_107 rfl (nI_1 j9) (by decide) rfl ?_
                refine A_goto (tgt := 29) dX0_bestTwo_110 rfl ?_
                refine ih_j9 (j9 + 1) _ _ _ (by omega) hw8 (by omega) ?_ ?_
                · skip
                  rw [zbj_s hij, zbs_a (Or.inl (b2i_n.mp h_5))]; exact e_y2
                · skip
                  rw [zbj_s hij, zbs_a (Or.inl (b2i_n.mp h_5))]; exact e_y3
              · skip
                have h_5' := b2i_0.mp h_5
                refine A_aload_n dX0_bestTwo_49 rfl rfl ?_
                refine A_iload dX0_bestTwo_50 rfl ?_
                refine A_iload dX0_bestTwo_52 rfl ?_
                refine A_callV (n := 0) dX0_bestTwo_54 kvX0_isBelow mlX0_47 rfl (az_rc_obj clX0 (hB 0 _ rfl)) (c_X0_isBelow l G (d + 1) sh sg la o N B w8 j9 i9 hB hN (by omega)) (by omega) (Nat.le_refl _) (Nat.le_refl _) rfl (Nat.le_of_ble_eq_true rfl) (fun r S1 hp => ?_)
                obtain ⟨rfl, rfl⟩ := hp
                show AW l G mX0_bestTwo (d + 2) (az_F G Post) 0 0 57 [some (.ref o), some (.int (zco B (-1) (-1) N)), some (.int y2), some (.int y3), some (.int (nI i9)), some (.int (nI j9)), none, none] [.int (b2i (zbl B j9 i9 = true))] (sh, (zB sg o (nI N) B w8), la)
                refine A_if_eq (tgt := 63) dX0_bestTwo_57 rfl (fun h_6 => ?_) (fun h_6 => ?_)
                · skip
                  have h_6' := b2i_0.mp h_6
                  have hnb : ¬ (zbl B i9 j9 = true ∨ zbl B j9 i9 = true) := fun q => q.elim (b2i_0.mp h_5) (b2i_0.mp h_6)
                  refine A_aload_n dX0_bestTwo_63 rfl rfl ?_
                  refine A_iload dX0_bestTwo_64 rfl ?_
                  refine A_iload dX0_bestTwo_66 rfl ?_
                  refine A_callV (n := 0) dX0_bestTwo_68 kvX0_countOrders mlX0_51 rfl (az_rc_obj clX0 (hB 0 _ rfl)) (c_X0_countOrders l G d sh sg la o N B w8 (nI i9) (nI j9) hB hN hw8) (by omega) (Nat.le_refl _) (Nat.le_refl _) rfl (Nat.le_of_ble_eq_true rfl) (fun r S1 hp => ?_)
                  obtain ⟨rfl, rfl⟩ := hp
                  show AW l G mX0_bestTwo (d + 2) (az_F G Post) 0 0 71 [some (.ref o), some (.int (zco B (-1) (-1) N)), some (.int y2), some (.int y3), some (.int (nI i9)), some (.int (nI j9)), none, none] [.int (zco B (nI i9) (nI j9) N)] (sh, (zB sg o (nI N) B (zcs B (nI i9) (nI j9) N (2 ^ N))), la)
                  refine A_istore (lo2 := [some (.ref o), some (.int (zco B (-1) (-1) N)), some (.int y2), some (.int y3), some (.int (nI i9)), some (.int (nI j9)), some (.int (zco B (nI i9) (nI j9) N)), none]) dX0_bestTwo_71 (by decide) rfl ?_
                  refine A_iload dX0_bestTwo_73 rfl ?_
                  refine A_iload_n dX0_bestTwo_75 rfl rfl ?_
                  refine A_iload dX0_bestTwo_76 rfl ?_
                  refine A_isub dX0_bestTwo_78 ?_
                  refine A_mxI dX0_bestTwo_79 mlX0_28 (by omega) (Nat.le_of_ble_eq_true rfl) ?_
                  refine A_istore (lo2 := [some (.ref o), some (.int (zco B (-1) (-1) N)), some (.int y2), some (.int y3), some (.int (nI i9)), some (.int (nI j9)), some (.int (zco B (nI i9) (nI j9) N)), some (.int (mxI (zco B (nI i9) (nI j9) N) (zco B (-1) (-1) N - zco B (nI i9) (nI j9) N)))]) dX0_bestTwo_82 (by decide) rfl ?_
                  refine A_iload_n dX0_bestTwo_84 rfl rfl ?_
                  refine A_iconst (v := (-1)) dX0_bestTwo_85 (by decide) ?_
                  refine A_icmp_eq (tgt := 95) dX0_bestTwo_86 rfl (fun h_7 => ?_) (fun h_7 => ?_)
                  · skip
                    refine A_bipush (v := 10) dX0_bestTwo_95 (by decide) ?_
                    refine A_iload dX0_bestTwo_97 rfl ?_
                    refine A_imul dX0_bestTwo_99 ?_
                    refine A_iload dX0_bestTwo_100 rfl ?_
                    refine A_iadd dX0_bestTwo_102 ?_
                    refine A_istore_n (lo2 := [some (.ref o), some (.int (zco B (-1) (-1) N)), some (.int ((10 * nI i9) + nI j9)), some (.int y3), some (.int (nI i9)), some (.int (nI j9)), some (.int (zco B (nI i9) (nI j9) N)), some (.int (mxI (zco B (nI i9) (nI j9) N) (zco B (-1) (-1) N - zco B (nI i9) (nI j9) N)))]) dX0_bestTwo_103 rfl (by decide) rfl ?_
                    refine A_iload dX0_bestTwo_104 rfl ?_
                    refine A_istore_n (lo2 := [some (.ref o), some (.int (zco B (-1) (-1) N)), some (.int ((10 * nI i9) + nI j9)), some (.int (mxI (zco B (nI i9) (nI j9) N) (zco B (-1) (-1) N - zco B (nI i9) (nI j9) N))), some (.int (nI i9)), some (.int (nI j9)), some (.int (zco B (nI i9) (nI j9) N)), some (.int (mxI (zco B (nI i9) (nI j9) N) (zco B (-1) (-1) N - zco B (nI i9) (nI j9) N)))]) dX0_bestTwo_106 rfl (by decide) rfl ?_
                    refine A_iinc (v := nI (j9 + 1)) (lo2 := [some (.ref o), some (.int (zco B (-1) (-1) N)), some (.int ((10 * nI i9) + nI j9)), some (.int (mxI (zco B (nI i9) (nI j9) N) (zco B (-1) (-1) N - zco B (nI i9) (nI j9) N))), some (.int (nI i9)), some (.int (nI (j9 + 1))), some (.int (zco B (nI i9) (nI j9) N)), some (.int (mxI (zco B (nI i9) (nI j9) N) (zco B (-1) (-1) N - zco B (nI i9) (nI j9) N)))]) dX0_bestTwo_107 rfl (nI_1 j9) (by decide) rfl ?_
                    refine A_goto (tgt := 29) dX0_bestTwo_110 rfl ?_
                    refine A_forget (lo2 := [some (.ref o), some (.int (zco B (-1) (-1) N)), some (.int ((10 * nI i9) + nI j9)), some (.int (mxI (zco B (nI i9) (nI j9) N) (zco B (-1) (-1) N - zco B (nI i9) (nI j9) N))), some (.int (nI i9)), some (.int (nI (j9 + 1))), none, none]) ⟨rfl, rfl, rfl, rfl, rfl, rfl, trivial⟩ ?_
                    refine ih_j9 (j9 + 1) _ _ _ (by omega) (zcs_t hN _ hp2) (by omega) ?_ ?_
                    · skip
                      rw [zbj_s hij, zbs_b hnb (Or.inl (by rw [← e_y2]; exact h_7))]
                    · skip
                      rw [zbj_s hij, zbs_b hnb (Or.inl (by rw [← e_y2]; exact h_7))]
                  · skip
                    refine A_iload dX0_bestTwo_89 rfl ?_
                    refine A_iload_n dX0_bestTwo_91 rfl rfl ?_
                    refine A_icmp_ge (tgt := 107) dX0_bestTwo_92 rfl (fun h_8 => ?_) (fun h_8 => ?_)
                    · skip
                      refine A_iinc (v := nI (j9 + 1)) (lo2 := [some (.ref o), some (.int (zco B (-1) (-1) N)), some (.int y2), some (.int y3), some (.int (nI i9)), some (.int (nI (j9 + 1))), some (.int (zco B (nI i9) (nI j9) N)), some (.int (mxI (zco B (nI i9) (nI j9) N) (zco B (-1) (-1) N - zco B (nI i9) (nI j9) N)))]) dX0_bestTwo_107 rfl (nI_1 j9) (by decide) rfl ?_
                      refine A_goto (tgt := 29) dX0_bestTwo_110 rfl ?_
                      refine A_forget (lo2 := [some (.ref o), some (.int (zco B (-1) (-1) N)), some (.int y2), some (.int y3), some (.int (nI i9)), some (.int (nI (j9 + 1))), none, none]) ⟨rfl, rfl, rfl, rfl, rfl, rfl, trivial⟩ ?_
                      refine ih_j9 (j9 + 1) _ _ _ (by omega) (zcs_t hN _ hp2) (by omega) ?_ ?_
                      · skip
                        rw [zbj_s hij, zbs_c hnb (fun q => q.elim (fun q1 => h_7 (by rw [e_y2]; exact q1)) (fun q1 => absurd q1 (by rw [← e_y3]; exact Int32.not_lt.mpr h_8)))]; exact e_y2
                      · skip
                        rw [zbj_s hij, zbs_c hnb (fun q => q.elim (fun q1 => h_7 (by rw [e_y2]; exact q1)) (fun q1 => absurd q1 (by rw [← e_y3]; exact Int32.not_lt.mpr h_8)))]; exact e_y3
                    · skip
                      refine A_bipush (v := 10) dX0_bestTwo_95 (by decide) ?_
                      refine A_iload dX0_bestTwo_97 rfl ?_
                      refine A_imul dX0_bestTwo_99 ?_
                      refine A_iload dX0_bestTwo_100 rfl ?_
                      refine A_iadd dX0_bestTwo_102 ?_
                      refine A_istore_n (lo2 := [some (.ref o), some (.int (zco B (-1) (-1) N)), some (.int ((10 * nI i9) + nI j9)), some (.int y3), some (.int (nI i9)), some (.int (nI j9)), some (.int (zco B (nI i9) (nI j9) N)), some (.int (mxI (zco B (nI i9) (nI j9) N) (zco B (-1) (-1) N - zco B (nI i9) (nI j9) N)))]) dX0_bestTwo_103 rfl (by decide) rfl ?_
                      refine A_iload dX0_bestTwo_104 rfl ?_
                      refine A_istore_n (lo2 := [some (.ref o), some (.int (zco B (-1) (-1) N)), some (.int ((10 * nI i9) + nI j9)), some (.int (mxI (zco B (nI i9) (nI j9) N) (zco B (-1) (-1) N - zco B (nI i9) (nI j9) N))), some (.int (nI i9)), some (.int (nI j9)), some (.int (zco B (nI i9) (nI j9) N)), some (.int (mxI (zco B (nI i9) (nI j9) N) (zco B (-1) (-1) N - zco B (nI i9) (nI j9) N)))]) dX0_bestTwo_106 rfl (by decide) rfl ?_
                      refine A_iinc (v := nI (j9 + 1)) (lo2 := [some (.ref o), some (.int (zco B (-1) (-1) N)), some (.int ((10 * nI i9) + nI j9)), some (.int (mxI (zco B (nI i9) (nI j9) N) (zco B (-1) (-1) N - zco B (nI i9) (nI j9) N))), some (.int (nI i9)), some (.int (nI (j9 + 1))), some (.int (zco B (nI i9) (nI j9) N)), some (.int (mxI (zco B (nI i9) (nI j9) N) (zco B (-1) (-1) N - zco B (nI i9) (nI j9) N)))]) dX0_bestTwo_107 rfl (nI_1 j9) (by decide) rfl ?_
                      refine A_goto (tgt := 29) dX0_bestTwo_110 rfl ?_
                      refine A_forget (lo2 := [some (.ref o), some (.int (zco B (-1) (-1) N)), some (.int ((10 * nI i9) + nI j9)), some (.int (mxI (zco B (nI i9) (nI j9) N) (zco B (-1) (-1) N - zco B (nI i9) (nI j9) N))), some (.int (nI i9)), some (.int (nI (j9 + 1))), none, none]) ⟨rfl, rfl, rfl, rfl, rfl, rfl, trivial⟩ ?_
                      refine ih_j9 (j9 + 1) _ _ _ (by omega) (zcs_t hN _ hp2) (by omega) ?_ ?_
                      · skip
                        rw [zbj_s hij, zbs_b hnb (Or.inr (by rw [← e_y3]; exact Int32.not_le.mp h_8))]
                      · skip
                        rw [zbj_s hij, zbs_b hnb (Or.inr (by rw [← e_y3]; exact Int32.not_le.mp h_8))]
                · skip
                  have h_6' := b2i_n.mp h_6
                  refine A_goto (tgt := 107) dX0_bestTwo_60 rfl ?_
                  refine A_iinc (v := nI (j9 + 1)) (lo2 := [some (.ref o), some (.int (zco B (-1) (-1) N)), some (.int y2), some (.int y3), some (.int (nI i9)), some (.int (nI (j9 + 1))), none, none]) dX0_bestTwo_107 rfl (nI_1 j9) (by decide) rfl ?_
                  refine A_goto (tgt := 29) dX0_bestTwo_110 rfl ?_
                  refine ih_j9 (j9 + 1) _ _ _ (by omega) hw8 (by omega) ?_ ?_
                  · skip
                    rw [zbj_s hij, zbs_a (Or.inr (b2i_n.mp h_6))]; exact e_y2
                  · skip
                    rw [zbj_s hij, zbs_a (Or.inr (b2i_n.mp h_6))]; exact e_y3
        exact loop2 ((N) - ((i9 + 1))) (i9 + 1) _ _ _ (by omega) hw9 (Nat.le_refl _) (by rw [Nat.sub_self]; exact e_x2) (by rw [Nat.sub_self]; exact e_x3)
  exact loop (N) 0 _ _ _ (by omega) (zcs_t hN _ hp2) (rfl) (rfl)
