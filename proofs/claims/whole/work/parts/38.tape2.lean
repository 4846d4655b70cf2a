def zwd (T : Nat → Int32) (t : Int32) (s e k : Nat) : Bool := decide (t = 1) && (decide (e - s = zln k) && zallb (fun i => decide (T (s + i) = zch k i)) (zln k))
theorem zwd_1 {T : Nat → Int32} {t : Int32} {s e k : Nat} (h : ¬ t = 1) : zwd T t s e k = false := by unfold zwd; rw [decide_eq_false h, Bool.false_and]
theorem zwd_2 {T : Nat → Int32} {t : Int32} {s e k : Nat} (h : ¬ e - s = zln k) : zwd T t s e k = false := by unfold zwd; rw [decide_eq_false h, Bool.false_and, Bool.and_false]
theorem zwd_3 {T : Nat → Int32} {t : Int32} {s e k : Nat} (h : zallb (fun i => decide (T (s + i) = zch k i)) (zln k) = false) : zwd T t s e k = false := by unfold zwd; rw [h, Bool.and_false, Bool.and_false]
theorem zwd_4 {T : Nat → Int32} {t : Int32} {s e k : Nat} (h1 : t = 1) (h2 : e - s = zln k) (h : zallb (fun i => decide (T (s + i) = zch k i)) (zln k) = true) : zwd T t s e k = true := by unfold zwd; rw [decide_eq_true h1, decide_eq_true h2, h]; rfl
set_option maxHeartbeats 600000 in
set_option maxRecDepth 100000 in
theorem c_X5_isWord (l : Launch) (G : az_Gh) (d : Nat) (sh : List az_Sh) (sg : Nat → Nat → Int32) (la : Nat → Nat → Int64) (o m s e k : Nat) (t : Int32) (hT : az_at sh o (lyP o)) (hm : sg o 1 = nI m) (hm2 : m ≤ 250) (hs : s ≤ e) (he : e ≤ m) (hk : k < 7) : FM l G (d + 4) mX5_isWord [.ref o, .ref (2000 + k)] (sh, (zTp sg o t (nI s) (nI e)), la) (some (.int (b2i (zwd (sg (o + 1)) t s e k = true)))) (sh, (zTp sg o t (nI s) (nI e)), la) := by
  refine az_fm knX5_isWord (Nat.le_of_ble_eq_true rfl) rfl (fun Post hP => ?_)
  show AW l G mX5_isWord (d + 4) (az_F G Post) 0 0 0 [some (.ref o), some (.ref (2000 + k)), none] [] (sh, (zTp sg o t (nI s) (nI e)), la)
  have hl6 : zln k ≤ 6 := zln_le k hk
  refine A_aload_n dX5_isWord_0 rfl rfl ?_
  refine B_getV (t) dX5_isWord_1 flX5_19 (hT 0 _ rfl) rfl (zTp_2 _ _ _ _ _) ?_
  refine A_iconst (v := 1) dX5_isWord_4 (by decide) ?_
  refine A_icmp_ne (tgt := 24) dX5_isWord_5 rfl (fun h_1 => ?_) (fun h_1 => ?_)
  · skip
    refine A_iconst (v := 0) dX5_isWord_24 (by decide) ?_
    refine A_zret dX5_isWord_25 rfl (rfl) (az_pi hP ?_ (rfl))
    (exact b2i_f (fun q => by rw [zwd_1 h_1] at q; cases q))
  · skip
    refine A_aload_n dX5_isWord_8 rfl rfl ?_
    refine B_getV (nI e) dX5_isWord_9 flX5_25 (hT 0 _ rfl) rfl (zTp_4 _ _ _ _ _) ?_
    refine A_aload_n dX5_isWord_12 rfl rfl ?_
    refine B_getV (nI s) dX5_isWord_13 flX5_22 (hT 0 _ rfl) rfl (zTp_3 _ _ _ _ _) ?_
    refine A_isub dX5_isWord_16 ?_
    refine B_top (nI_sub (by omega) (by omega)) ?_
    refine A_aload_n dX5_isWord_17 rfl rfl ?_
    refine A_callV (n := 0) dX5_isWord_18 kvJ0_length_8abf5 mlX5_90 rfl (az_rc_str hk) (c_J0_length_8abf5 l G (d + 2) sh (zTp sg o t (nI s) (nI e)) la k hk) (by omega) (Nat.le_refl _) (Nat.le_refl _) rfl (Nat.le_of_ble_eq_true rfl) (fun r S1 hp => ?_)
    obtain ⟨rfl, rfl⟩ := hp
    show AW l G mX5_isWord (d + 4) (az_F G Post) 0 0 21 [some (.ref o), some (.ref (2000 + k)), none] [.int (nI (zln k)), .int (nI (e - s))] (sh, (zTp sg o t (nI s) (nI e)), la)
    refine A_icmp_eq (tgt := 26) dX5_isWord_21 rfl (fun h_2 => ?_) (fun h_2 => ?_)
    · skip
      have hlen : e - s = zln k := (nI_eq (by omega) (by omega)).mp h_2
      refine A_iconst (v := 0) dX5_isWord_26 (by decide) ?_
      refine A_istore_n (lo2 := [some (.ref o), some (.ref (2000 + k)), some (.int 0)]) dX5_isWord_27 rfl (by decide) rfl ?_
      have loop : ∀ (q_i9 i9 : Nat), i9 + q_i9 = zln k → (∀ i, i < i9 → (fun i => decide (sg (o + 1) (s + i) = zch k i)) i = true) → AW l G mX5_isWord (d + 4) (az_F G Post) 0 0 28 [some (.ref o), some (.ref (2000 + k)), some (.int (nI i9))] [] (sh, (zTp sg o t (nI s) (nI e)), la) := by
        intro q_i9
        induction q_i9 with
        | zero =>
          intro i9  hi_i9 hno 
          have hN_i9 : i9 = zln k := by omega
          subst i9
          refine A_iload_n dX5_isWord_28 rfl rfl ?_
          refine A_aload_n dX5_isWord_29 rfl rfl ?_
          refine A_callV (n := 0) dX5_isWord_30 kvJ0_length_8abf5 mlX5_90 rfl (az_rc_str hk) (c_J0_length_8abf5 l G (d + 2) sh (zTp sg o t (nI s) (nI e)) la k hk) (by omega) (Nat.le_refl _) (Nat.le_refl _) rfl (Nat.le_of_ble_eq_true rfl) (fun r S1 hp => ?_)
          obtain ⟨rfl, rfl⟩ := hp
          show AW l G mX5_isWord (d + 4) (az_F G Post) 0 0 33 [some (.ref o), some (.ref (2000 + k)), some (.int (nI (zln k)))] [.int (nI (zln k)), .int (nI (zln k))] (sh, (zTp sg o t (nI s) (nI e)), la)
          refine A_icmp_ge (tgt := 63) dX5_isWord_33 rfl (fun h_3 => ?_) (fun h_3 => ?_)
          · skip
            refine A_iconst (v := 1) dX5_isWord_63 (by decide) ?_
            refine A_zret dX5_isWord_64 rfl (rfl) (az_pi hP ?_ (rfl))
            (exact b2i_t (zwd_4 h_1 hlen (zallb_t hno)))
          · skip
            exact absurd (Int32.le_refl _) h_3
        | succ q_i9 ih =>
          intro i9  hi_i9 hno 
          refine A_iload_n dX5_isWord_28 rfl rfl ?_
          refine A_aload_n dX5_isWord_29 rfl rfl ?_
          refine A_callV (n := 0) dX5_isWord_30 kvJ0_length_8abf5 mlX5_90 rfl (az_rc_str hk) (c_J0_length_8abf5 l G (d + 2) sh (zTp sg o t (nI s) (nI e)) la k hk) (by omega) (Nat.le_refl _) (Nat.le_refl _) rfl (Nat.le_of_ble_eq_true rfl) (fun r S1 hp => ?_)
          obtain ⟨rfl, rfl⟩ := hp
          show AW l G mX5_isWord (d + 4) (az_F G Post) 0 0 33 [some (.ref o), some (.ref (2000 + k)), some (.int (nI i9))] [.int (nI (zln k)), .int (nI i9)] (sh, (zTp sg o t (nI s) (nI e)), la)
          refine A_icmp_ge (tgt := 63) dX5_isWord_33 rfl (fun h_4 => ?_) (fun h_4 => ?_)
          · skip
            exact absurd h_4 (nI_ge (by omega) (by omega))
          · skip
            refine A_aload_n dX5_isWord_36 rfl rfl ?_
            refine B_getR (r := (o + 1)) dX5_isWord_37 flX5_9 (hT 0 _ rfl) rfl ?_
            refine A_aload_n dX5_isWord_40 rfl rfl ?_
            refine B_getV (nI s) dX5_isWord_41 flX5_22 (hT 0 _ rfl) rfl (zTp_3 _ _ _ _ _) ?_
            refine A_iload_n dX5_isWord_44 rfl rfl ?_
            refine A_iadd dX5_isWord_45 ?_
            refine B_ialdV (i := (s + i9)) (sg (o + 1) (s + i9)) dX5_isWord_46 (hT 1 _ rfl) (by decide) (nI_add s i9) (by omega) (congrFun (zTp_ne (by omega)) _) ?_
            refine A_aload_n dX5_isWord_47 rfl rfl ?_
            refine A_iload_n dX5_isWord_48 rfl rfl ?_
            refine A_callV (n := 0) dX5_isWord_49 kvJ0_charAt_5068e mlX5_96 rfl (az_rc_str hk) (c_J0_charAt_5068e l G d sh (zTp sg o t (nI s) (nI e)) la k i9 hk (by omega)) (by omega) (Nat.le_refl _) (Nat.le_refl _) rfl (Nat.le_of_ble_eq_true rfl) (fun r S1 hp => ?_)
            obtain ⟨rfl, rfl⟩ := hp
            show AW l G mX5_isWord (d + 4) (az_F G Post) 0 0 52 [some (.ref o), some (.ref (2000 + k)), some (.int (nI i9))] [.int (zch k i9), .int (sg (o + 1) (s + i9))] (sh, (zTp sg o t (nI s) (nI e)), la)
            refine A_icmp_eq (tgt := 57) dX5_isWord_52 rfl (fun h_5 => ?_) (fun h_5 => ?_)
            · skip
              refine A_iinc (v := nI (i9 + 1)) (lo2 := [some (.ref o), some (.ref (2000 + k)), some (.int (nI (i9 + 1)))]) dX5_isWord_57 rfl (nI_1 i9) (by decide) rfl ?_
              refine A_goto (tgt := 28) dX5_isWord_60 rfl ?_
              refine ih (i9 + 1) (by omega) (lt_s hno (decide_eq_true h_5))
            · skip
              refine A_iconst (v := 0) dX5_isWord_55 (by decide) ?_
              refine A_zret dX5_isWord_56 rfl (rfl) (az_pi hP ?_ (rfl))
              (exact b2i_f (fun q => by rw [zwd_3 (zallb_f (i := i9) (by omega) (decide_eq_false h_5) hno)] at q; cases q))
      exact loop (zln k) 0 (by omega) lt_0
    · skip
      refine A_iconst (v := 0) dX5_isWord_24 (by decide) ?_
      refine A_zret dX5_isWord_25 rfl (rfl) (az_pi hP ?_ (rfl))
      (exact b2i_f (fun q => by rw [zwd_2 (fun q => h_2 (by rw [q]))] at q; cases q))
set_option maxHeartbeats 600000 in
set_option maxRecDepth 100000 in
theorem c_X5_readNumber (l : Launch) (G : az_Gh) (d : Nat) (sh : List az_Sh) (sg : Nat → Nat → Int32) (la : Nat → Nat → Int64) (o m e : Nat) (t s most : Int32) (hT : az_at sh o (lyP o)) (hm : sg o 1 = nI m) (hm2 : m ≤ 250) (he : e ≤ m) : FM l G (d + 2) mX5_readNumber [.ref o, .int most] (sh, (zTp sg o t s (nI e)), la) (some (.int (znum (sg (o + 1)) m e most))) (sh, zTp sg o (zst3 (sg (o + 1)) m e).1 (nI (zss (sg (o + 1)) m e)) (nI (zst3 (sg (o + 1)) m e).2), la) := by
  refine az_fm knX5_readNumber (Nat.le_of_ble_eq_true rfl) rfl (fun Post hP => ?_)
  show AW l G mX5_readNumber (d + 2) (az_F G Post) 0 0 0 [some (.ref o), some (.int most), none, none] [] (sh, (zTp sg o t s (nI e)), la)
  have hz3 := zst3_le (T := (sg (o + 1))) he
  obtain ⟨A, hA⟩ : ∃ A, zss (sg (o + 1)) m e = A := ⟨_, rfl⟩
  obtain ⟨tk, htk⟩ : ∃ x, (zst3 (sg (o + 1)) m e).1 = x := ⟨_, rfl⟩
  obtain ⟨E, hE⟩ : ∃ x, (zst3 (sg (o + 1)) m e).2 = x := ⟨_, rfl⟩
  rw [hA, hE] at hz3
  refine A_aload_n dX5_readNumber_0 rfl rfl ?_
  have hst := c_X5_step l G d sh sg la o m e t s hT hm hm2 he
  rw [htk, hA, hE] at hst
  refine A_callV (n := 0) dX5_readNumber_1 kvX5_step mlX5_32 rfl (az_rc_obj clX5 (hT 0 _ rfl)) (hst) (by omega) (Nat.le_refl _) (Nat.le_refl _) rfl (Nat.le_of_ble_eq_true rfl) (fun r S1 hp => ?_)
  obtain ⟨rfl, rfl⟩ := hp
  show AW l G mX5_readNumber (d + 2) (az_F G Post) 0 0 4 [some (.ref o), some (.int most), none, none] [] (sh, (zTp sg o tk (nI A) (nI E)), la)
  refine A_aload_n dX5_readNumber_4 rfl rfl ?_
  refine B_getV (tk) dX5_readNumber_5 flX5_19 (hT 0 _ rfl) rfl (zTp_2 _ _ _ _ _) ?_
  refine A_iconst (v := 2) dX5_readNumber_8 (by decide) ?_
  refine A_icmp_ne (tgt := 25) dX5_readNumber_9 rfl (fun h_1 => ?_) (fun h_1 => ?_)
  · skip
    refine A_iconst (v := (-1)) dX5_readNumber_25 (by decide) ?_
    refine A_iret dX5_readNumber_26 rfl (az_pi hP ?_ (by rw [htk, hA, hE]))
    (unfold znum; rw [htk, hE, hA, if_neg (fun q => h_1 q.1)])
  · skip
    refine A_aload_n dX5_readNumber_12 rfl rfl ?_
    refine B_getV (nI E) dX5_readNumber_13 flX5_25 (hT 0 _ rfl) rfl (zTp_4 _ _ _ _ _) ?_
    refine A_aload_n dX5_readNumber_16 rfl rfl ?_
    refine B_getV (nI A) dX5_readNumber_17 flX5_22 (hT 0 _ rfl) rfl (zTp_3 _ _ _ _ _) ?_
    refine A_isub dX5_readNumber_20 ?_
    refine B_top (nI_sub (by omega) (by omega)) ?_
    refine A_iconst (v := 3) dX5_readNumber_21 (by decide) ?_
    refine A_icmp_le (tgt := 27) dX5_readNumber_22 rfl (fun h_2 => ?_) (fun h_2 => ?_)
    · skip
      have hok : tk = 2 ∧ E - A ≤ 3 := ⟨h_1, (nI_leI (by omega) (by decide)).mp (show nI (E - A) ≤ nI 3 from h_2)⟩
      refine A_iconst (v := 0) dX5_readNumber_27 (by decide) ?_
      refine A_istore_n (lo2 := [some (.ref o), some (.int most), some (.int 0), none]) dX5_readNumber_28 rfl (by decide) rfl ?_
      refine A_aload_n dX5_readNumber_29 rfl rfl ?_
      refine B_getV (nI A) dX5_readNumber_30 flX5_22 (hT 0 _ rfl) rfl (zTp_3 _ _ _ _ _) ?_
      refine A_istore_n (lo2 := [some (.ref o), some (.int most), some (.int 0), some (.int (nI A))]) dX5_readNumber_33 rfl (by decide) rfl ?_
      have loop : ∀ (q_i9 i9 : Nat) (v2 : Int32), i9 + q_i9 = E → A ≤ i9 → v2 = zvl (sg (o + 1)) A (i9 - A) → AW l G mX5_readNumber (d + 2) (az_F G Post) 0 0 34 [some (.ref o), some (.int most), some (.int v2), some (.int (nI i9))] [] (sh, (zTp sg o tk (nI A) (nI E)), la) := by
        intro q_i9
        induction q_i9 with
        | zero =>
          intro i9 v2 hi_i9 hAi e_v2
          have hN_i9 : i9 = E := by omega
          subst i9
          refine A_iload_n dX5_readNumber_34 rfl rfl ?_
          refine A_aload_n dX5_readNumber_35 rfl rfl ?_
          refine B_getV (nI E) dX5_readNumber_36 flX5_25 (hT 0 _ rfl) rfl (zTp_4 _ _ _ _ _) ?_
          refine A_icmp_ge (tgt := 63) dX5_readNumber_39 rfl (fun h_3 => ?_) (fun h_3 => ?_)
          · skip
            refine A_iload_n dX5_readNumber_63 rfl rfl ?_
            refine A_iload_n dX5_readNumber_64 rfl rfl ?_
            refine A_icmp_gt (tgt := 72) dX5_readNumber_65 rfl (fun h_4 => ?_) (fun h_4 => ?_)
            · skip
              refine A_iconst (v := (-1)) dX5_readNumber_72 (by decide) ?_
              refine A_iret dX5_readNumber_73 rfl (az_pi hP ?_ (by rw [htk, hA, hE]))
              (unfold znum; rw [htk, hE, hA, if_pos hok, if_neg (by rw [← e_v2]; exact Int32.not_le.mpr h_4)])
            · skip
              refine A_iload_n dX5_readNumber_68 rfl rfl ?_
              refine A_goto (tgt := 73) dX5_readNumber_69 rfl ?_
              refine A_iret dX5_readNumber_73 rfl (az_pi hP ?_ (by rw [htk, hA, hE]))
              (unfold znum; rw [htk, hE, hA, if_pos hok, if_pos (by rw [← e_v2]; exact Int32.not_lt.mp h_4)]; exact e_v2)
          · skip
            exact absurd (Int32.le_refl _) h_3
        | succ q_i9 ih =>
          intro i9 v2 hi_i9 hAi e_v2
          refine A_iload_n dX5_readNumber_34 rfl rfl ?_
          refine A_aload_n dX5_readNumber_35 rfl rfl ?_
          refine B_getV (nI E) dX5_readNumber_36 flX5_25 (hT 0 _ rfl) rfl (zTp_4 _ _ _ _ _) ?_
          refine A_icmp_ge (tgt := 63) dX5_readNumber_39 rfl (fun h_5 => ?_) (fun h_5 => ?_)
          · skip
            exact absurd h_5 (nI_ge (by omega) (by omega))
          · skip
            refine A_bipush (v := 10) dX5_readNumber_42 (by decide) ?_
            refine A_iload_n dX5_readNumber_44 rfl rfl ?_
            refine A_imul dX5_readNumber_45 ?_
            refine A_aload_n dX5_readNumber_46 rfl rfl ?_
            refine B_getR (r := (o + 1)) dX5_readNumber_47 flX5_9 (hT 0 _ rfl) rfl ?_
            refine A_iload_n dX5_readNumber_50 rfl rfl ?_
            refine B_ialdV (i := i9) (sg (o + 1) i9) dX5_readNumber_51 (hT 1 _ rfl) (by decide) (rfl) (by omega) (congrFun (zTp_ne (by omega)) _) ?_
            refine A_iadd dX5_readNumber_52 ?_
            refine A_bipush (v := 48) dX5_readNumber_53 (by decide) ?_
            refine A_isub dX5_readNumber_55 ?_
            refine A_istore_n (lo2 := [some (.ref o), some (.int most), some (.int (((10 * v2) + sg (o + 1) i9) - 48)), some (.int (nI i9))]) dX5_readNumber_56 rfl (by decide) rfl ?_
            refine A_iinc (v := nI (i9 + 1)) (lo2 := [some (.ref o), some (.int most), some (.int (((10 * v2) + sg (o + 1) i9) - 48)), some (.int (nI (i9 + 1)))]) dX5_readNumber_57 rfl (nI_1 i9) (by decide) rfl ?_
            refine A_goto (tgt := 34) dX5_readNumber_60 rfl ?_
            refine ih (i9 + 1) _ (by omega) (by omega) ?_
            · skip
              rw [e_v2, show i9 + 1 - A = (i9 - A) + 1 by omega]; show _ = 10 * zvl (sg (o + 1)) A (i9 - A) + (sg (o + 1)) (A + (i9 - A)) - 48; rw [show A + (i9 - A) = i9 by omega]
      exact loop ((E) - (A)) A _ (by omega) (Nat.le_refl _) (by rw [Nat.sub_self]; rfl)
    · skip
      refine A_iconst (v := (-1)) dX5_readNumber_25 (by decide) ?_
      refine A_iret dX5_readNumber_26 rfl (az_pi hP ?_ (by rw [htk, hA, hE]))
      (unfold znum; rw [htk, hE, hA, if_neg (fun q : tk = 2 ∧ E - A ≤ 3 => h_2 (show nI (E - A) ≤ nI 3 from nI_le q.2 (by decide)))])
