theorem lcmp_gt {x y : Int64} : 0 < lg_cmp x y ↔ y < x := by
  rw [← Int32.not_le, ← Int64.not_le]
  refine not_congr ⟨fun h => ?_, fun h => ?_⟩
  · refine Int64.not_lt.mp (fun q => ?_)
    have h2 : lg_cmp x y = 1 := by unfold lg_cmp; exact if_pos q
    rw [h2] at h
    exact absurd h (by decide)
  · unfold lg_cmp
    rw [if_neg (Int64.not_lt.mpr h)]
    split <;> decide
def zairs (sg : Nat → Nat → Int32) (la : Nat → Nat → Int64) (s0 : Nat) (k : Nat) : Bool := decide (0 ≤ zat sg la s0 (2 * nI k)) && decide (zat sg la s0 (2 * nI k) ≤ 40)
theorem zairs_t {sg : Nat → Nat → Int32} {la : Nat → Nat → Int64} {s0 k : Nat} (h1 : 0 ≤ zat sg la s0 (2 * nI k)) (h2 : zat sg la s0 (2 * nI k) ≤ 40) : zairs sg la s0 k = true := by unfold zairs; rw [decide_eq_true h1, decide_eq_true h2]; rfl
theorem zairs_1 {sg : Nat → Nat → Int32} {la : Nat → Nat → Int64} {s0 k : Nat} (h1 : ¬ 0 ≤ zat sg la s0 (2 * nI k)) : zairs sg la s0 k = false := by unfold zairs; rw [decide_eq_false h1, Bool.false_and]
theorem zairs_2 {sg : Nat → Nat → Int32} {la : Nat → Nat → Int64} {s0 k : Nat} (h1 : ¬ zat sg la s0 (2 * nI k) ≤ 40) : zairs sg la s0 k = false := by unfold zairs; rw [decide_eq_false h1, Bool.and_false]
def zwhe (sg : Nat → Nat → Int32) (la : Nat → Nat → Int64) (s0 : Nat) (k : Nat) : Bool := decide (zat sg la s0 (2 * nI k + 1) = 0) || decide (zat sg la s0 (2 * nI k + 1) = 1)
theorem zwhe_1 {sg : Nat → Nat → Int32} {la : Nat → Nat → Int64} {s0 k : Nat} (h : zat sg la s0 (2 * nI k + 1) = 0) : zwhe sg la s0 k = true := by unfold zwhe; rw [decide_eq_true h, Bool.true_or]
theorem zwhe_2 {sg : Nat → Nat → Int32} {la : Nat → Nat → Int64} {s0 k : Nat} (h : zat sg la s0 (2 * nI k + 1) = 1) : zwhe sg la s0 k = true := by unfold zwhe; rw [decide_eq_true h, Bool.or_true]
theorem zwhe_3 {sg : Nat → Nat → Int32} {la : Nat → Nat → Int64} {s0 k : Nat} (h : ¬ zat sg la s0 (2 * nI k + 1) = 0) (h2 : ¬ zat sg la s0 (2 * nI k + 1) = 1) : zwhe sg la s0 k = false := by unfold zwhe; rw [decide_eq_false h, decide_eq_false h2]; rfl
set_option maxHeartbeats 600000 in
set_option maxRecDepth 100000 in
theorem c_X7_areAirs (l : Launch) (G : az_Gh) (d : Nat) (sh : List az_Sh) (sg : Nat → Nat → Int32) (la : Nat → Nat → Int64) (s0 n : Nat) (hS : az_at sh s0 (lyS s0)) (z : Nat) (hz : sg s0 2 = nI z) (hz4 : z ≤ 40) (hn : n ≤ 20) : FM l G (d + 2) mX7_areAirs [.ref s0, .int (nI n)] (sh, sg, la) (some (.int (b2i (zallb (zairs sg la s0) n = true)))) (sh, sg, la) := by
  refine az_fm knX7_areAirs (Nat.le_of_ble_eq_true rfl) rfl (fun Post hP => ?_)
  show AW l G mX7_areAirs (d + 2) (az_F G Post) 0 0 0 [some (.ref s0), some (.int (nI n)), none] [] (sh, sg, la)
  refine A_iconst (v := 0) dX7_areAirs_0 (by decide) ?_
  refine A_istore_n (lo2 := [some (.ref s0), some (.int (nI n)), some (.int 0)]) dX7_areAirs_1 rfl (by decide) rfl ?_
  have loop : ∀ (q_i9 i9 : Nat), i9 + q_i9 = n → (∀ k, k < i9 → zairs sg la s0 k = true) → AW l G mX7_areAirs (d + 2) (az_F G Post) 0 0 2 [some (.ref s0), some (.int (nI n)), some (.int (nI i9))] [] (sh, sg, la) := by
    intro q_i9
    induction q_i9 with
    | zero =>
      intro i9  hi_i9 hno 
      have hN_i9 : i9 = n := by omega
      subst i9
      refine A_iload_n dX7_areAirs_2 rfl rfl ?_
      refine A_iload_n dX7_areAirs_3 rfl rfl ?_
      refine A_icmp_ge (tgt := 41) dX7_areAirs_4 rfl (fun h_1 => ?_) (fun h_1 => ?_)
      · skip
        refine A_iconst (v := 1) dX7_areAirs_41 (by decide) ?_
        refine A_zret dX7_areAirs_42 rfl (rfl) (az_pi hP ?_ (rfl))
        (exact b2i_t (zallb_t hno))
      · skip
        exact absurd (Int32.le_refl _) h_1
    | succ q_i9 ih =>
      intro i9  hi_i9 hno 
      refine A_iload_n dX7_areAirs_2 rfl rfl ?_
      refine A_iload_n dX7_areAirs_3 rfl rfl ?_
      refine A_icmp_ge (tgt := 41) dX7_areAirs_4 rfl (fun h_2 => ?_) (fun h_2 => ?_)
      · skip
        exact absurd h_2 (nI_ge (by omega) (by omega))
      · skip
        refine A_aload_n dX7_areAirs_7 rfl rfl ?_
        refine A_iconst (v := 2) dX7_areAirs_8 (by decide) ?_
        refine A_iload_n dX7_areAirs_9 rfl rfl ?_
        refine A_imul dX7_areAirs_10 ?_
        refine A_callV (n := 0) dX7_areAirs_11 kvX4_at mlX7_120 rfl (az_rc_obj clX4 (hS 0 _ rfl)) (c_X4_at l G d sh sg la s0 (2 * nI i9) hS z hz hz4) (by omega) (Nat.le_refl _) (Nat.le_refl _) rfl (Nat.le_of_ble_eq_true rfl) (fun r S1 hp => ?_)
        obtain ⟨rfl, rfl⟩ := hp
        show AW l G mX7_areAirs (d + 2) (az_F G Post) 0 0 14 [some (.ref s0), some (.int (nI n)), some (.int (nI i9))] [.long (zat sg la s0 (2 * nI i9))] (sh, sg, la)
        refine A_lconst (v := 0) dX7_areAirs_14 (by decide) ?_
        refine A_lcmp dX7_areAirs_15 ?_
        refine A_if_lt (tgt := 33) dX7_areAirs_16 rfl (fun h_3 => ?_) (fun h_3 => ?_)
        · skip
          refine A_iconst (v := 0) dX7_areAirs_33 (by decide) ?_
          refine A_zret dX7_areAirs_34 rfl (rfl) (az_pi hP ?_ (rfl))
          (exact b2i_f (fun q => by rw [zallb_f (i := i9) (by omega) (zairs_1 (fun q => absurd (lcmp_lt.mp h_3) (Int64.not_lt.mpr q))) hno] at q; cases q))
        · skip
          refine A_aload_n dX7_areAirs_19 rfl rfl ?_
          refine A_iconst (v := 2) dX7_areAirs_20 (by decide) ?_
          refine A_iload_n dX7_areAirs_21 rfl rfl ?_
          refine A_imul dX7_areAirs_22 ?_
          refine A_callV (n := 0) dX7_areAirs_23 kvX4_at mlX7_120 rfl (az_rc_obj clX4 (hS 0 _ rfl)) (c_X4_at l G d sh sg la s0 (2 * nI i9) hS z hz hz4) (by omega) (Nat.le_refl _) (Nat.le_refl _) rfl (Nat.le_of_ble_eq_true rfl) (fun r S1 hp => ?_)
          obtain ⟨rfl, rfl⟩ := hp
          show AW l G mX7_areAirs (d + 2) (az_F G Post) 0 0 26 [some (.ref s0), some (.int (nI n)), some (.int (nI i9))] [.long (zat sg la s0 (2 * nI i9))] (sh, sg, la)
          refine A_ldc2 (v := 40) dX7_areAirs_26 lcX7_351 ?_
          refine A_lcmp dX7_areAirs_29 ?_
          refine A_if_le (tgt := 35) dX7_areAirs_30 rfl (fun h_4 => ?_) (fun h_4 => ?_)
          · skip
            refine A_iinc (v := nI (i9 + 1)) (lo2 := [some (.ref s0), some (.int (nI n)), some (.int (nI (i9 + 1)))]) dX7_areAirs_35 rfl (nI_1 i9) (by decide) rfl ?_
            refine A_goto (tgt := 2) dX7_areAirs_38 rfl ?_
            refine ih (i9 + 1) (by omega) (lt_s hno (zairs_t (Int64.not_lt.mp (fun q => h_3 (lcmp_lt.mpr q))) (Int64.not_lt.mp (fun q => absurd h_4 (Int32.not_le.mpr (lcmp_gt.mpr q))))))
          · skip
            refine A_iconst (v := 0) dX7_areAirs_33 (by decide) ?_
            refine A_zret dX7_areAirs_34 rfl (rfl) (az_pi hP ?_ (rfl))
            (exact b2i_f (fun q => by rw [zallb_f (i := i9) (by omega) (zairs_2 (fun q => absurd (lcmp_gt.mp (Int32.not_le.mp h_4)) (Int64.not_lt.mpr q))) hno] at q; cases q))
  exact loop (n) 0 (by omega) lt_0
set_option maxHeartbeats 600000 in
set_option maxRecDepth 100000 in
theorem c_X7_areWhethers (l : Launch) (G : az_Gh) (d : Nat) (sh : List az_Sh) (sg : Nat → Nat → Int32) (la : Nat → Nat → Int64) (s0 n : Nat) (hS : az_at sh s0 (lyS s0)) (z : Nat) (hz : sg s0 2 = nI z) (hz4 : z ≤ 40) (hn : n ≤ 20) : FM l G (d + 2) mX7_areWhethers [.ref s0, .int (nI n)] (sh, sg, la) (some (.int (b2i (zallb (zwhe sg la s0) n = true)))) (sh, sg, la) := by
  refine az_fm knX7_areWhethers (Nat.le_of_ble_eq_true rfl) rfl (fun Post hP => ?_)
  show AW l G mX7_areWhethers (d + 2) (az_F G Post) 0 0 0 [some (.ref s0), some (.int (nI n)), none] [] (sh, sg, la)
  refine A_iconst (v := 0) dX7_areWhethers_0 (by decide) ?_
  refine A_istore_n (lo2 := [some (.ref s0), some (.int (nI n)), some (.int 0)]) dX7_areWhethers_1 rfl (by decide) rfl ?_
  have loop : ∀ (q_i9 i9 : Nat), i9 + q_i9 = n → (∀ k, k < i9 → zwhe sg la s0 k = true) → AW l G mX7_areWhethers (d + 2) (az_F G Post) 0 0 2 [some (.ref s0), some (.int (nI n)), some (.int (nI i9))] [] (sh, sg, la) := by
    intro q_i9
    induction q_i9 with
    | zero =>
      intro i9  hi_i9 hno 
      have hN_i9 : i9 = n := by omega
      subst i9
      refine A_iload_n dX7_areWhethers_2 rfl rfl ?_
      refine A_iload_n dX7_areWhethers_3 rfl rfl ?_
      refine A_icmp_ge (tgt := 43) dX7_areWhethers_4 rfl (fun h_1 => ?_) (fun h_1 => ?_)
      · skip
        refine A_iconst (v := 1) dX7_areWhethers_43 (by decide) ?_
        refine A_zret dX7_areWhethers_44 rfl (rfl) (az_pi hP ?_ (rfl))
        (exact b2i_t (zallb_t hno))
      · skip
        exact absurd (Int32.le_refl _) h_1
    | succ q_i9 ih =>
      intro i9  hi_i9 hno 
      refine A_iload_n dX7_areWhethers_2 rfl rfl ?_
      refine A_iload_n dX7_areWhethers_3 rfl rfl ?_
      refine A_icmp_ge (tgt := 43) dX7_areWhethers_4 rfl (fun h_2 => ?_) (fun h_2 => ?_)
      · skip
        exact absurd h_2 (nI_ge (by omega) (by omega))
      · skip
        refine A_aload_n dX7_areWhethers_7 rfl rfl ?_
        refine A_iconst (v := 2) dX7_areWhethers_8 (by decide) ?_
        refine A_iload_n dX7_areWhethers_9 rfl rfl ?_
        refine A_imul dX7_areWhethers_10 ?_
        refine A_iconst (v := 1) dX7_areWhethers_11 (by decide) ?_
        refine A_iadd dX7_areWhethers_12 ?_
        refine A_callV (n := 0) dX7_areWhethers_13 kvX4_at mlX7_120 rfl (az_rc_obj clX4 (hS 0 _ rfl)) (c_X4_at l G d sh sg la s0 ((2 * nI i9) + 1) hS z hz hz4) (by omega) (Nat.le_refl _) (Nat.le_refl _) rfl (Nat.le_of_ble_eq_true rfl) (fun r S1 hp => ?_)
        obtain ⟨rfl, rfl⟩ := hp
        show AW l G mX7_areWhethers (d + 2) (az_F G Post) 0 0 16 [some (.ref s0), some (.int (nI n)), some (.int (nI i9))] [.long (zat sg la s0 ((2 * nI i9) + 1))] (sh, sg, la)
        refine A_lconst (v := 0) dX7_areWhethers_16 (by decide) ?_
        refine A_lcmp dX7_areWhethers_17 ?_
        refine A_if_eq (tgt := 37) dX7_areWhethers_18 rfl (fun h_3 => ?_) (fun h_3 => ?_)
        · skip
          refine A_iinc (v := nI (i9 + 1)) (lo2 := [some (.ref s0), some (.int (nI n)), some (.int (nI (i9 + 1)))]) dX7_areWhethers_37 rfl (nI_1 i9) (by decide) rfl ?_
          refine A_goto (tgt := 2) dX7_areWhethers_40 rfl ?_
          refine ih (i9 + 1) (by omega) (lt_s hno (zwhe_1 (lcmp_0.mp h_3)))
        · skip
          refine A_aload_n dX7_areWhethers_21 rfl rfl ?_
          refine A_iconst (v := 2) dX7_areWhethers_22 (by decide) ?_
          refine A_iload_n dX7_areWhethers_23 rfl rfl ?_
          refine A_imul dX7_areWhethers_24 ?_
          refine A_iconst (v := 1) dX7_areWhethers_25 (by decide) ?_
          refine A_iadd dX7_areWhethers_26 ?_
          refine A_callV (n := 0) dX7_areWhethers_27 kvX4_at mlX7_120 rfl (az_rc_obj clX4 (hS 0 _ rfl)) (c_X4_at l G d sh sg la s0 ((2 * nI i9) + 1) hS z hz hz4) (by omega) (Nat.le_refl _) (Nat.le_refl _) rfl (Nat.le_of_ble_eq_true rfl) (fun r S1 hp => ?_)
          obtain ⟨rfl, rfl⟩ := hp
          show AW l G mX7_areWhethers (d + 2) (az_F G Post) 0 0 30 [some (.ref s0), some (.int (nI n)), some (.int (nI i9))] [.long (zat sg la s0 ((2 * nI i9) + 1))] (sh, sg, la)
          refine A_lconst (v := 1) dX7_areWhethers_30 (by decide) ?_
          refine A_lcmp dX7_areWhethers_31 ?_
          refine A_if_eq (tgt := 37) dX7_areWhethers_32 rfl (fun h_4 => ?_) (fun h_4 => ?_)
          · skip
            refine A_iinc (v := nI (i9 + 1)) (lo2 := [some (.ref s0), some (.int (nI n)), some (.int (nI (i9 + 1)))]) dX7_areWhethers_37 rfl (nI_1 i9) (by decide) rfl ?_
            refine A_goto (tgt := 2) dX7_areWhethers_40 rfl ?_
            refine ih (i9 + 1) (by omega) (lt_s hno (zwhe_2 (lcmp_0.mp h_4)))
          · skip
            refine A_iconst (v := 0) dX7_areWhethers_35 (by decide) ?_
            refine A_zret dX7_areWhethers_36 rfl (rfl) (az_pi hP ?_ (rfl))
            (exact b2i_f (fun q => by rw [zallb_f (i := i9) (by omega) (zwhe_3 (fun q => h_3 (lcmp_0.mpr q)) (fun q => h_4 (lcmp_0.mpr q))) hno] at q; cases q))
  exact loop (n) 0 (by omega) lt_0
