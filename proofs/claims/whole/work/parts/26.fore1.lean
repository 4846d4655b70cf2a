set_option maxHeartbeats 600000 in
set_option maxRecDepth 100000 in
theorem f_X3_begin (l : Launch) (G : az_Gh) (d : Nat) (sh : List az_Sh) (sg : Nat → Nat → Int32) (la : Nat → Nat → Int64) (o n0 : Nat) (c cn : CT) (hF : az_at sh o (lyF o)) (hC2 : az_at sh n0 (lyC n0)) (hd : n0 + 5 < o ∨ o + 7 ≤ n0) (hcn : ct sg n0 = cn) (ht : cTl c) (ht2 : cTl cn) (hRn : cRng cn) : FM l G (d + 3) mX3_begin [.ref o, .ref n0] (sh, (zput sg (o + 1) c), la) (some (.ref (o + 1))) (sh, zput sg (o + 1) cn, la) := by
  refine az_fm knX3_begin (Nat.le_of_ble_eq_true rfl) rfl (fun Post hP => ?_)
  show AW l G mX3_begin (d + 3) (az_F G Post) 0 0 0 [some (.ref o), some (.ref n0)] [] (sh, (zput sg (o + 1) c), la)
  have hT := lyF_C hF
  refine A_aload_n dX3_begin_0 rfl rfl ?_
  refine B_getR (r := (o + 1)) dX3_begin_1 flX3_12 (hF 0 _ rfl) rfl ?_
  refine A_aload_n dX3_begin_4 rfl rfl ?_
  refine A_callV (n := 0) dX3_begin_5 kvX2_load mlX3_22 rfl (az_rc_obj clX2 (hF 1 _ rfl)) (z_X2_load l G d sh sg la (o + 1) c n0 hT hC2 (by omega) ht (by rw [hcn]; exact ht2)) (by omega) (Nat.le_refl _) (Nat.le_refl _) rfl (Nat.le_of_ble_eq_true rfl) (fun r S1 hp => ?_)
  obtain ⟨rfl, rfl⟩ := hp
  show AW l G mX3_begin (d + 3) (az_F G Post) 0 0 8 [some (.ref o), some (.ref n0)] [] (sh, (zput sg (o + 1) (ct sg n0)), la)
  refine A_aload_n dX3_begin_8 rfl rfl ?_
  refine B_getR (r := (o + 1)) dX3_begin_9 flX3_12 (hF 0 _ rfl) rfl ?_
  exact A_aret dX3_begin_12 rfl (by rw [hcn]; exact hP)
set_option maxHeartbeats 600000 in
set_option maxRecDepth 100000 in
theorem c_X3_noneAsLast (l : Launch) (G : az_Gh) (d : Nat) (sh : List az_Sh) (sg : Nat → Nat → Int32) (la : Nat → Nat → Int64) (x : Int32)  : FM l G (d) mX3_noneAsLast [.int x] (sh, sg, la) (some (.int (znl x))) (sh, sg, la) := by
  refine az_fm knX3_noneAsLast (Nat.le_of_ble_eq_true rfl) rfl (fun Post hP => ?_)
  show AW l G mX3_noneAsLast (d) (az_F G Post) 0 0 0 [some (.int x)] [] (sh, sg, la)
  refine A_iload_n dX3_noneAsLast_0 rfl rfl ?_
  refine A_iconst (v := (-1)) dX3_noneAsLast_1 (by decide) ?_
  refine A_icmp_ne (tgt := 10) dX3_noneAsLast_2 rfl (fun h_1 => ?_) (fun h_1 => ?_)
  · skip
    refine A_iload_n dX3_noneAsLast_10 rfl rfl ?_
    refine A_iret dX3_noneAsLast_11 rfl (az_pi hP ?_ (rfl))
    exact (if_neg h_1).symm
  · skip
    refine A_bipush (v := 61) dX3_noneAsLast_5 (by decide) ?_
    refine A_goto (tgt := 11) dX3_noneAsLast_7 rfl ?_
    refine A_iret dX3_noneAsLast_11 rfl (az_pi hP ?_ (rfl))
    exact (if_pos h_1).symm
set_option maxHeartbeats 600000 in
set_option maxRecDepth 100000 in
theorem f_X3_firstHeard (l : Launch) (G : az_Gh) (d : Nat) (sh : List az_Sh) (sg : Nat → Nat → Int32) (la : Nat → Nat → Int64) (o n0 : Nat) (c cn : CT) (p : Nat) (hF : az_at sh o (lyF o)) (hC2 : az_at sh n0 (lyC n0)) (hd : n0 + 5 < o ∨ o + 7 ≤ n0) (hcn : ct sg n0 = cn) (ht : cTl c) (ht2 : cTl cn) (hRn : cRng cn) (hp : p < cN cn) : FM l G (d + 4) mX3_firstHeard [.ref o, .ref n0, .int (nI p)] (sh, (zput sg (o + 1) c), la) (some (.int (zhearI cn p))) (sh, zput sg (o + 1) (zdays (zhear cn p) cn), la) := by
  refine az_fm knX3_firstHeard (Nat.le_of_ble_eq_true rfl) rfl (fun Post hP => ?_)
  show AW l G mX3_firstHeard (d + 4) (az_F G Post) 0 0 0 [some (.ref o), some (.ref n0), some (.int (nI p)), none] [] (sh, (zput sg (o + 1) c), la)
  have hT := lyF_C hF
  have hO := hRn.1
  have h8 := hO.2
  have hpp : sg n0 5 = nI (cN cn) := by have q := hRn.1.1; rw [← hcn] at q ⊢; exact q
  refine A_aload_n dX3_firstHeard_0 rfl rfl ?_
  refine A_aload_n dX3_firstHeard_1 rfl rfl ?_
  refine A_callV (n := 0) dX3_firstHeard_2 kvX3_begin mlX3_26 rfl (az_rc_obj clX3 (hF 0 _ rfl)) (f_X3_begin l G d sh sg la o n0 c cn hF hC2 hd hcn ht ht2 hRn) (by omega) (Nat.le_refl _) (Nat.le_refl _) rfl (Nat.le_of_ble_eq_true rfl) (fun r S1 hp => ?_)
  obtain ⟨rfl, rfl⟩ := hp
  show AW l G mX3_firstHeard (d + 4) (az_F G Post) 0 0 5 [some (.ref o), some (.ref n0), some (.int (nI p)), none] [.ref (o + 1)] (sh, (zput sg (o + 1) cn), la)
  refine A_pop dX3_firstHeard_5 rfl ?_
  refine A_iconst (v := 0) dX3_firstHeard_6 (by decide) ?_
  refine A_istore_n (lo2 := [some (.ref o), some (.ref n0), some (.int (nI p)), some (.int 0)]) dX3_firstHeard_7 rfl (by decide) rfl ?_
  have loop : ∀ (q_i9 i9 : Nat) (e1 : CT), i9 + q_i9 = 61 → (∀ k, k < i9 → zsp (zdays k cn) p = false) → e1 = zdays i9 cn → AW l G mX3_firstHeard (d + 4) (az_F G Post) 0 0 8 [some (.ref o), some (.ref n0), some (.int (nI p)), some (.int (nI i9))] [] (sh, (zput sg (o + 1) e1), la) := by
    intro q_i9
    induction q_i9 with
    | zero =>
      intro i9 e1 hi_i9 hno e_e1
      have hN_i9 : i9 = 61 := by omega
      subst hN_i9
      refine A_iload_n dX3_firstHeard_8 rfl rfl ?_
      refine A_bipush (v := 60) dX3_firstHeard_9 (by decide) ?_
      refine A_icmp_gt (tgt := 41) dX3_firstHeard_11 rfl (fun h_1 => ?_) (fun h_1 => ?_)
      · skip
        refine A_iconst (v := (-1)) dX3_firstHeard_41 (by decide) ?_
        refine A_iret dX3_firstHeard_42 rfl (az_pi hP ?_ (by rw [e_e1]; unfold zhear; rw [fa_first_none hno]))
        unfold zhearI zhear; rw [fa_first_none hno, if_neg (by omega)]
      · skip
        exact absurd (by decide) h_1
    | succ q_i9 ih =>
      intro i9 e1 hi_i9 hno e_e1
      refine A_iload_n dX3_firstHeard_8 rfl rfl ?_
      refine A_bipush (v := 60) dX3_firstHeard_9 (by decide) ?_
      refine A_icmp_gt (tgt := 41) dX3_firstHeard_11 rfl (fun h_2 => ?_) (fun h_2 => ?_)
      · skip
        exact absurd h_2 (nI_nlt (b := i9) (a := 60) (by omega) (by decide))
      · skip
        refine A_aload_n dX3_firstHeard_14 rfl rfl ?_
        refine B_getR (r := (o + 1)) dX3_firstHeard_15 flX3_12 (hF 0 _ rfl) rfl ?_
        refine A_iload_n dX3_firstHeard_18 rfl rfl ?_
        refine A_callV (n := 0) dX3_firstHeard_19 kvX2_isHeard mlX3_56 rfl (az_rc_obj clX2 (hF 1 _ rfl)) (z_X2_isHeard l G (d + 1) sh sg la (o + 1) e1 p hT (by rw [e_e1]; exact (zdays_Rng hRn _).1) (by rw [e_e1, zdays_N]; exact hp)) (by omega) (Nat.le_refl _) (Nat.le_refl _) rfl (Nat.le_of_ble_eq_true rfl) (fun r S1 hp => ?_)
        obtain ⟨rfl, rfl⟩ := hp
        show AW l G mX3_firstHeard (d + 4) (az_F G Post) 0 0 22 [some (.ref o), some (.ref n0), some (.int (nI p)), some (.int (nI i9))] [.int (b2i (zsp e1 p = true))] (sh, (zput sg (o + 1) e1), la)
        refine A_if_eq (tgt := 27) dX3_firstHeard_22 rfl (fun h_3 => ?_) (fun h_3 => ?_)
        · skip
          have h_3' := b2i_0.mp h_3
          refine A_aload_n dX3_firstHeard_27 rfl rfl ?_
          refine B_getR (r := (o + 1)) dX3_firstHeard_28 flX3_12 (hF 0 _ rfl) rfl ?_
          refine A_iconst (v := 1) dX3_firstHeard_31 (by decide) ?_
          refine A_callV (n := 0) dX3_firstHeard_32 kvX2_coolDown mlX3_60 rfl (az_rc_obj clX2 (hF 1 _ rfl)) (z_X2_coolDown l G (d + 2) sh sg la (o + 1) e1 1 hT (by rw [e_e1]; exact (zdays_Rng hRn _).1)) (by omega) (Nat.le_refl _) (Nat.le_refl _) rfl (Nat.le_of_ble_eq_true rfl) (fun r S1 hp => ?_)
          obtain ⟨rfl, rfl⟩ := hp
          show AW l G mX3_firstHeard (d + 4) (az_F G Post) 0 0 35 [some (.ref o), some (.ref n0), some (.int (nI p)), some (.int (nI i9))] [] (sh, (zput sg (o + 1) (zcool 1 e1)), la)
          refine A_iinc (v := nI (i9 + 1)) (lo2 := [some (.ref o), some (.ref n0), some (.int (nI p)), some (.int (nI (i9 + 1)))]) dX3_firstHeard_35 rfl (nI_1 i9) (by decide) rfl ?_
          refine A_goto (tgt := 8) dX3_firstHeard_38 rfl ?_
          refine ih (i9 + 1) _ (by omega) (lt_s hno (by have q := b2i_0.mp h_3; rw [e_e1] at q; exact Bool.eq_false_iff.mpr q)) ?_
          · skip
            rw [e_e1]; rfl
        · skip
          have h_3' := b2i_n.mp h_3
          refine A_iload_n dX3_firstHeard_25 rfl rfl ?_
          refine A_iret dX3_firstHeard_26 rfl (az_pi hP ?_ (by rw [e_e1]; unfold zhear; rw [(fa_first_eq (by omega) (by rw [← e_e1]; exact b2i_n.mp h_3) hno)]))
          unfold zhearI zhear; rw [(fa_first_eq (by omega) (by rw [← e_e1]; exact b2i_n.mp h_3) hno), if_pos (by omega)]
  exact loop (61) 0 _ (by omega) lt_0 (rfl)
set_option maxHeartbeats 600000 in
set_option maxRecDepth 100000 in
theorem f_X3_bestHolder (l : Launch) (G : az_Gh) (d : Nat) (sh : List az_Sh) (sg : Nat → Nat → Int32) (la : Nat → Nat → Int64) (o n0 : Nat) (c cn : CT) (lg : Bool) (hF : az_at sh o (lyF o)) (hC2 : az_at sh n0 (lyC n0)) (hd : n0 + 5 < o ∨ o + 7 ≤ n0) (hcn : ct sg n0 = cn) (ht : cTl c) (ht2 : cTl cn) (hRn : cRng cn)  : AM l G (d + 5) mX3_bestHolder [.ref o, .ref n0, .int (b2i (lg = true))] (sh, zput sg (o + 1) c, la) 0 0 (fun r1 S1 => r1 = some (.int (oI (zbst (zfH cn) lg (cN cn)))) ∧ ∃ e, cTl e ∧ S1 = (sh, zput sg (o + 1) e, la)) := by
  refine az_am knX3_bestHolder (Nat.le_of_ble_eq_true rfl) rfl (fun Post hP => ?_)
  show AW l G mX3_bestHolder (d + 5) (az_F G Post) 0 0 0 [some (.ref o), some (.ref n0), some (.int (b2i (lg = true))), none, none, none, none] [] (sh, (zput sg (o + 1) c), la)
  have hT := lyF_C hF
  have hO := hRn.1
  have h8 := hO.2
  have hpp : sg n0 5 = nI (cN cn) := by have q := hRn.1.1; rw [← hcn] at q ⊢; exact q
  refine A_iconst (v := (-1)) dX3_bestHolder_0 (by decide) ?_
  refine A_istore_n (lo2 := [some (.ref o), some (.ref n0), some (.int (b2i (lg = true))), some (.int (-1)), none, none, none]) dX3_bestHolder_1 rfl (by decide) rfl ?_
  refine A_iconst (v := 0) dX3_bestHolder_2 (by decide) ?_
  refine A_istore (lo2 := [some (.ref o), some (.ref n0), some (.int (b2i (lg = true))), some (.int (-1)), some (.int 0), none, none]) dX3_bestHolder_3 (by decide) rfl ?_
  refine A_iconst (v := 0) dX3_bestHolder_5 (by decide) ?_
  refine A_istore (lo2 := [some (.ref o), some (.ref n0), some (.int (b2i (lg = true))), some (.int (-1)), some (.int 0), some (.int 0), none]) dX3_bestHolder_6 (by decide) rfl ?_
  have loop : ∀ (q_i9 i9 : Nat) (x3 : Int32) (x4 : Int32) (e1 : CT), i9 + q_i9 = cN cn → cTl e1 → x3 = oI (zbst (zfH cn) lg i9) → x4 = zbday (zfH cn) lg i9 → AW l G mX3_bestHolder (d + 5) (az_F G Post) 0 0 8 [some (.ref o), some (.ref n0), some (.int (b2i (lg = true))), some (.int x3), some (.int x4), some (.int (nI i9)), none] [] (sh, (zput sg (o + 1) e1), la) := by
    intro q_i9
    induction q_i9 with
    | zero =>
      intro i9 x3 x4 e1 hi_i9 ht1 e_x3 e_x4
      have hN_i9 : i9 = cN cn := by omega
      subst hN_i9
      refine A_iload dX3_bestHolder_8 rfl ?_
      refine A_aload_n dX3_bestHolder_10 rfl rfl ?_
      refine B_getV (nI (cN cn)) dX3_bestHolder_11 flX3_34 (hC2 0 _ rfl) rfl ((congrFun (zput_ne (by omega)) 5).trans hpp) ?_
      refine A_icmp_ge (tgt := 68) dX3_bestHolder_14 rfl (fun h_1 => ?_) (fun h_1 => ?_)
      · skip
        refine A_iload_n dX3_bestHolder_68 rfl rfl ?_
        refine A_iret dX3_bestHolder_69 rfl (hP _ _ ⟨congrArg (fun z => some (Value.int z)) ?_, e1, ht1, rfl⟩)
        exact e_x3
      · skip
        exact absurd (Int32.le_refl _) h_1
    | succ q_i9 ih =>
      intro i9 x3 x4 e1 hi_i9 ht1 e_x3 e_x4
      refine A_iload dX3_bestHolder_8 rfl ?_
      refine A_aload_n dX3_bestHolder_10 rfl rfl ?_
      refine B_getV (nI (cN cn)) dX3_bestHolder_11 flX3_34 (hC2 0 _ rfl) rfl ((congrFun (zput_ne (by omega)) 5).trans hpp) ?_
      refine A_icmp_ge (tgt := 68) dX3_bestHolder_14 rfl (fun h_2 => ?_) (fun h_2 => ?_)
      · skip
        exact absurd h_2 (nI_ge (by omega) (by omega))
      · skip
        refine A_aload_n dX3_bestHolder_17 rfl rfl ?_
        refine A_aload_n dX3_bestHolder_18 rfl rfl ?_
        refine A_iload dX3_bestHolder_19 rfl ?_
        refine A_callV (n := 0) dX3_bestHolder_21 kvX3_firstHeard mlX3_63 rfl (az_rc_obj clX3 (hF 0 _ rfl)) (f_X3_firstHeard l G d sh sg la o n0 e1 cn i9 hF hC2 hd hcn ht1 ht2 hRn (by omega)) (by omega) (Nat.le_refl _) (Nat.le_refl _) rfl (Nat.le_of_ble_eq_true rfl) (fun r S1 hp => ?_)
        obtain ⟨rfl, rfl⟩ := hp
        show AW l G mX3_bestHolder (d + 5) (az_F G Post) 0 0 24 [some (.ref o), some (.ref n0), some (.int (b2i (lg = true))), some (.int x3), some (.int x4), some (.int (nI i9)), none] [.int (zhearI cn i9)] (sh, (zput sg (o + 1) (zdays (zhear cn i9) cn)), la)
        refine A_callS (n := 0) dX3_bestHolder_24 ksX3_noneAsLast mlX3_53 rfl (c_X3_noneAsLast l G (d + 4) sh (zput sg (o + 1) (zdays (zhear cn i9) cn)) la (zhearI cn i9)) (by omega) (Nat.le_refl _) (Nat.le_refl _) rfl (Nat.le_of_ble_eq_true rfl) (fun r S1 hp => ?_)
        obtain ⟨rfl, rfl⟩ := hp
        show AW l G mX3_bestHolder (d + 5) (az_F G Post) 0 0 27 [some (.ref o), some (.ref n0), some (.int (b2i (lg = true))), some (.int x3), some (.int x4), some (.int (nI i9)), none] [.int (znl (zhearI cn i9))] (sh, (zput sg (o + 1) (zdays (zhear cn i9) cn)), la)
        refine A_istore (lo2 := [some (.ref o), some (.ref n0), some (.int (b2i (lg = true))), some (.int x3), some (.int x4), some (.int (nI i9)), some (.int (znl (zhearI cn i9)))]) dX3_bestHolder_27 (by decide) rfl ?_
        have hval : znl (zhearI cn i9) = zfH cn i9 := zfH_I cn i9
        refine A_iload_n dX3_bestHolder_29 rfl rfl ?_
        refine A_iconst (v := (-1)) dX3_bestHolder_30 (by decide) ?_
        refine A_icmp_eq (tgt := 55) dX3_bestHolder_31 rfl (fun h_3 => ?_) (fun h_3 => ?_)
        · skip
          refine A_iload dX3_bestHolder_55 rfl ?_
          refine A_istore_n (lo2 := [some (.ref o), some (.ref n0), some (.int (b2i (lg = true))), some (.int (nI i9)), some (.int x4), some (.int (nI i9)), some (.int (znl (zhearI cn i9)))]) dX3_bestHolder_57 rfl (by decide) rfl ?_
          refine A_iload dX3_bestHolder_58 rfl ?_
          refine A_istore (lo2 := [some (.ref o), some (.ref n0), some (.int (b2i (lg = true))), some (.int (nI i9)), some (.int (znl (zhearI cn i9))), some (.int (nI i9)), some (.int (znl (zhearI cn i9)))]) dX3_bestHolder_60 (by decide) rfl ?_
          refine A_iinc (v := nI (i9 + 1)) (lo2 := [some (.ref o), some (.ref n0), some (.int (b2i (lg = true))), some (.int (nI i9)), some (.int (znl (zhearI cn i9))), some (.int (nI (i9 + 1))), some (.int (znl (zhearI cn i9)))]) dX3_bestHolder_62 rfl (nI_1 i9) (by decide) rfl ?_
          refine A_goto (tgt := 8) dX3_bestHolder_65 rfl ?_
          refine A_forget (lo2 := [some (.ref o), some (.ref n0), some (.int (b2i (lg = true))), some (.int (nI i9)), some (.int (znl (zhearI cn i9))), some (.int (nI (i9 + 1))), none]) ⟨rfl, rfl, rfl, rfl, rfl, rfl, trivial⟩ ?_
          refine ih (i9 + 1) _ _ _ (by omega) (cTl_days ht2 h8 _) ?_ ?_
          · skip
            rw [zbst_first (zbst_none (by rw [← e_x3]; exact h_3) (by omega))]; rfl
          · skip
            rw [zbday_some (zbst_first (zbst_none (by rw [← e_x3]; exact h_3) (by omega)))]; exact hval
        · skip
          refine A_iload_n dX3_bestHolder_34 rfl rfl ?_
          refine A_if_eq (tgt := 48) dX3_bestHolder_35 rfl (fun h_4 => ?_) (fun h_4 => ?_)
          · skip
            have h_4' := b2i_0.mp h_4
            refine A_iload dX3_bestHolder_48 rfl ?_
            refine A_iload dX3_bestHolder_50 rfl ?_
            refine A_icmp_ge (tgt := 62) dX3_bestHolder_52 rfl (fun h_5 => ?_) (fun h_5 => ?_)
            · skip
              refine A_iinc (v := nI (i9 + 1)) (lo2 := [some (.ref o), some (.ref n0), some (.int (b2i (lg = true))), some (.int x3), some (.int x4), some (.int (nI (i9 + 1))), some (.int (znl (zhearI cn i9)))]) dX3_bestHolder_62 rfl (nI_1 i9) (by decide) rfl ?_
              refine A_goto (tgt := 8) dX3_bestHolder_65 rfl ?_
              refine A_forget (lo2 := [some (.ref o), some (.ref n0), some (.int (b2i (lg = true))), some (.int x3), some (.int x4), some (.int (nI (i9 + 1))), none]) ⟨rfl, rfl, rfl, rfl, rfl, rfl, trivial⟩ ?_
              refine ih (i9 + 1) _ _ _ (by omega) (cTl_days ht2 h8 _) ?_ ?_
              · skip
                rw [zbst_no (by rw [← e_x3]; exact h_3) (by rw [← e_x4]; rw [show lg = false from Bool.eq_false_iff.mpr (b2i_0.mp h_4)]; exact fun q => absurd (zcmp_f.mp q) (by rw [← hval]; exact Int32.not_lt.mpr h_5))]; exact e_x3
              · skip
                rw [zbday_eq (zbst_no (by rw [← e_x3]; exact h_3) (by rw [← e_x4]; rw [show lg = false from Bool.eq_false_iff.mpr (b2i_0.mp h_4)]; exact fun q => absurd (zcmp_f.mp q) (by rw [← hval]; exact Int32.not_lt.mpr h_5)))]; exact e_x4
            · skip
              refine A_iload dX3_bestHolder_55 rfl ?_
              refine A_istore_n (lo2 := [some (.ref o), some (.ref n0), some (.int (b2i (lg = true))), some (.int (nI i9)), some (.int x4), some (.int (nI i9)), some (.int (znl (zhearI cn i9)))]) dX3_bestHolder_57 rfl (by decide) rfl ?_
              refine A_iload dX3_bestHolder_58 rfl ?_
              refine A_istore (lo2 := [some (.ref o), some (.ref n0), some (.int (b2i (lg = true))), some (.int (nI i9)), some (.int (znl (zhearI cn i9))), some (.int (nI i9)), some (.int (znl (zhearI cn i9)))]) dX3_bestHolder_60 (by decide) rfl ?_
              refine A_iinc (v := nI (i9 + 1)) (lo2 := [some (.ref o), some (.ref n0), some (.int (b2i (lg = true))), some (.int (nI i9)), some (.int (znl (zhearI cn i9))), some (.int (nI (i9 + 1))), some (.int (znl (zhearI cn i9)))]) dX3_bestHolder_62 rfl (nI_1 i9) (by decide) rfl ?_
              refine A_goto (tgt := 8) dX3_bestHolder_65 rfl ?_
              refine A_forget (lo2 := [some (.ref o), some (.ref n0), some (.int (b2i (lg = true))), some (.int (nI i9)), some (.int (znl (zhearI cn i9))), some (.int (nI (i9 + 1))), none]) ⟨rfl, rfl, rfl, rfl, rfl, rfl, trivial⟩ ?_
              refine ih (i9 + 1) _ _ _ (by omega) (cTl_days ht2 h8 _) ?_ ?_
              · skip
                rw [zbst_yes (by rw [← e_x3]; exact h_3) (by rw [← e_x4]; rw [show lg = false from Bool.eq_false_iff.mpr (b2i_0.mp h_4)]; exact zcmp_f.mpr (by rw [← hval]; exact Int32.not_le.mp h_5))]; rfl
              · skip
                rw [zbday_some (zbst_yes (by rw [← e_x3]; exact h_3) (by rw [← e_x4]; rw [show lg = false from Bool.eq_false_iff.mpr (b2i_0.mp h_4)]; exact zcmp_f.mpr (by rw [← hval]; exact Int32.not_le.mp h_5)))]; exact hval
          · skip
            have h_4' := b2i_n.mp h_4
            refine A_iload dX3_bestHolder_38 rfl ?_
            refine A_iload dX3_bestHolder_40 rfl ?_
            refine A_icmp_le (tgt := 62) dX3_bestHolder_42 rfl (fun h_6 => ?_) (fun h_6 => ?_)
            · skip
              refine A_iinc (v := nI (i9 + 1)) (lo2 := [some (.ref o), some (.ref n0), some (.int (b2i (lg = true))), some (.int x3), some (.int x4), some (.int (nI (i9 + 1))), some (.int (znl (zhearI cn i9)))]) dX3_bestHolder_62 rfl (nI_1 i9) (by decide) rfl ?_
              refine A_goto (tgt := 8) dX3_bestHolder_65 rfl ?_
              refine A_forget (lo2 := [some (.ref o), some (.ref n0), some (.int (b2i (lg = true))), some (.int x3), some (.int x4), some (.int (nI (i9 + 1))), none]) ⟨rfl, rfl, rfl, rfl, rfl, rfl, trivial⟩ ?_
              refine ih (i9 + 1) _ _ _ (by omega) (cTl_days ht2 h8 _) ?_ ?_
              · skip
                rw [zbst_no (by rw [← e_x3]; exact h_3) (by rw [← e_x4]; rw [show lg = true from b2i_n.mp h_4]; exact fun q => absurd (zcmp_t.mp q) (by rw [← hval]; exact Int32.not_lt.mpr h_6))]; exact e_x3
              · skip
                rw [zbday_eq (zbst_no (by rw [← e_x3]; exact h_3) (by rw [← e_x4]; rw [show lg = true from b2i_n.mp h_4]; exact fun q => absurd (zcmp_t.mp q) (by rw [← hval]; exact Int32.not_lt.mpr h_6)))]; exact e_x4
            · skip
              refine A_goto (tgt := 55) dX3_bestHolder_45 rfl ?_
              refine A_iload dX3_bestHolder_55 rfl ?_
              refine A_istore_n (lo2 := [some (.ref o), some (.ref n0), some (.int (b2i (lg = true))), some (.int (nI i9)), some (.int x4), some (.int (nI i9)), some (.int (znl (zhearI cn i9)))]) dX3_bestHolder_57 rfl (by decide) rfl ?_
              refine A_iload dX3_bestHolder_58 rfl ?_
              refine A_istore (lo2 := [some (.ref o), some (.ref n0), some (.int (b2i (lg = true))), some (.int (nI i9)), some (.int (znl (zhearI cn i9))), some (.int (nI i9)), some (.int (znl (zhearI cn i9)))]) dX3_bestHolder_60 (by decide) rfl ?_
              refine A_iinc (v := nI (i9 + 1)) (lo2 := [some (.ref o), some (.ref n0), some (.int (b2i (lg = true))), some (.int (nI i9)), some (.int (znl (zhearI cn i9))), some (.int (nI (i9 + 1))), some (.int (znl (zhearI cn i9)))]) dX3_bestHolder_62 rfl (nI_1 i9) (by decide) rfl ?_
              refine A_goto (tgt := 8) dX3_bestHolder_65 rfl ?_
              refine A_forget (lo2 := [some (.ref o), some (.ref n0), some (.int (b2i (lg = true))), some (.int (nI i9)), some (.int (znl (zhearI cn i9))), some (.int (nI (i9 + 1))), none]) ⟨rfl, rfl, rfl, rfl, rfl, rfl, trivial⟩ ?_
              refine ih (i9 + 1) _ _ _ (by omega) (cTl_days ht2 h8 _) ?_ ?_
              · skip
                rw [zbst_yes (by rw [← e_x3]; exact h_3) (by rw [← e_x4]; rw [show lg = true from b2i_n.mp h_4]; exact zcmp_t.mpr (by rw [← hval]; exact Int32.not_le.mp h_6))]; rfl
              · skip
                rw [zbday_some (zbst_yes (by rw [← e_x3]; exact h_3) (by rw [← e_x4]; rw [show lg = true from b2i_n.mp h_4]; exact zcmp_t.mpr (by rw [← hval]; exact Int32.not_le.mp h_6)))]; exact hval
  exact loop (cN cn) 0 _ _ _ (by omega) ht (rfl) (rfl)
set_option maxHeartbeats 600000 in
set_option maxRecDepth 100000 in
theorem f_X3_bestAway (l : Launch) (G : az_Gh) (d : Nat) (sh : List az_Sh) (sg : Nat → Nat → Int32) (la : Nat → Nat → Int64) (o n0 : Nat) (c cn : CT) (lg : Bool) (hF : az_at sh o (lyF o)) (hC2 : az_at sh n0 (lyC n0)) (hd : n0 + 5 < o ∨ o + 7 ≤ n0) (hcn : ct sg n0 = cn) (ht : cTl c) (ht2 : cTl cn) (hRn : cRng cn) (haw : cAway cn = -1) : AM l G (d + 5) mX3_bestAway [.ref o, .ref n0, .int (b2i (lg = true))] (sh, zput sg (o + 1) c, la) 0 0 (fun r1 S1 => r1 = some (.int (oI (zbst (zfW cn) lg (cN cn)))) ∧ ∃ e, cTl e ∧ S1 = (sh, zput sg (o + 1) e, la)) := by
  refine az_am knX3_bestAway (Nat.le_of_ble_eq_true rfl) rfl (fun Post hP => ?_)
  show AW l G mX3_bestAway (d + 5) (az_F G Post) 0 0 0 [some (.ref o), some (.ref n0), some (.int (b2i (lg = true))), none, none, none, none] [] (sh, (zput sg (o + 1) c), la)
  have hT := lyF_C hF
  have hO := hRn.1
  have h8 := hO.2
  have hpp : sg n0 5 = nI (cN cn) := by have q := hRn.1.1; rw [← hcn] at q ⊢; exact q
  refine A_iconst (v := (-1)) dX3_bestAway_0 (by decide) ?_
  refine A_istore_n (lo2 := [some (.ref o), some (.ref n0), some (.int (b2i (lg = true))), some (.int (-1)), none, none, none]) dX3_bestAway_1 rfl (by decide) rfl ?_
  refine A_iconst (v := 0) dX3_bestAway_2 (by decide) ?_
  refine A_istore (lo2 := [some (.ref o), some (.ref n0), some (.int (b2i (lg = true))), some (.int (-1)), some (.int 0), none, none]) dX3_bestAway_3 (by decide) rfl ?_
  refine A_iconst (v := 0) dX3_bestAway_5 (by decide) ?_
  refine A_istore (lo2 := [some (.ref o), some (.ref n0), some (.int (b2i (lg = true))), some (.int (-1)), some (.int 0), some (.int 0), none]) dX3_bestAway_6 (by decide) rfl ?_
  have loop : ∀ (q_i9 i9 : Nat) (x3 : Int32) (x4 : Int32) (e1 : CT), i9 + q_i9 = cN cn → cTl e1 → x3 = oI (zbst (zfW cn) lg i9) → x4 = zbday (zfW cn) lg i9 → AW l G mX3_bestAway (d + 5) (az_F G Post) 0 0 8 [some (.ref o), some (.ref n0), some (.int (b2i (lg = true))), some (.int x3), some (.int x4), some (.int (nI i9)), none] [] (sh, (zput sg (o + 1) e1), la) := by
    intro q_i9
    induction q_i9 with
    | zero =>
      intro i9 x3 x4 e1 hi_i9 ht1 e_x3 e_x4
      have hN_i9 : i9 = cN cn := by omega
      subst hN_i9
      refine A_iload dX3_bestAway_8 rfl ?_
      refine A_aload_n dX3_bestAway_10 rfl rfl ?_
      refine B_getV (nI (cN cn)) dX3_bestAway_11 flX3_34 (hC2 0 _ rfl) rfl ((congrFun (zput_ne (by omega)) 5).trans hpp) ?_
      refine A_icmp_ge (tgt := 85) dX3_bestAway_14 rfl (fun h_1 => ?_) (fun h_1 => ?_)
      · skip
        refine A_iload_n dX3_bestAway_85 rfl rfl ?_
        refine A_iret dX3_bestAway_86 rfl (hP _ _ ⟨congrArg (fun z => some (Value.int z)) ?_, e1, ht1, rfl⟩)
        exact e_x3
      · skip
        exact absurd (Int32.le_refl _) h_1
    | succ q_i9 ih =>
      intro i9 x3 x4 e1 hi_i9 ht1 e_x3 e_x4
      refine A_iload dX3_bestAway_8 rfl ?_
      refine A_aload_n dX3_bestAway_10 rfl rfl ?_
      refine B_getV (nI (cN cn)) dX3_bestAway_11 flX3_34 (hC2 0 _ rfl) rfl ((congrFun (zput_ne (by omega)) 5).trans hpp) ?_
      refine A_icmp_ge (tgt := 85) dX3_bestAway_14 rfl (fun h_2 => ?_) (fun h_2 => ?_)
      · skip
        exact absurd h_2 (nI_ge (by omega) (by omega))
      · skip
        refine A_aload_n dX3_bestAway_17 rfl rfl ?_
        refine A_aload_n dX3_bestAway_18 rfl rfl ?_
        refine A_callV (n := 0) dX3_bestAway_19 kvX3_begin mlX3_26 rfl (az_rc_obj clX3 (hF 0 _ rfl)) (f_X3_begin l G (d + 1) sh sg la o n0 e1 cn hF hC2 hd hcn ht1 ht2 hRn) (by omega) (Nat.le_refl _) (Nat.le_refl _) rfl (Nat.le_of_ble_eq_true rfl) (fun r S1 hp => ?_)
        obtain ⟨rfl, rfl⟩ := hp
        show AW l G mX3_bestAway (d + 5) (az_F G Post) 0 0 22 [some (.ref o), some (.ref n0), some (.int (b2i (lg = true))), some (.int x3), some (.int x4), some (.int (nI i9)), none] [.ref (o + 1)] (sh, (zput sg (o + 1) cn), la)
        refine A_pop dX3_bestAway_22 rfl ?_
        refine A_aload_n dX3_bestAway_23 rfl rfl ?_
        refine B_getR (r := (o + 1)) dX3_bestAway_24 flX3_12 (hF 0 _ rfl) rfl ?_
        refine A_iload dX3_bestAway_27 rfl ?_
        refine A_callV (n := 0) dX3_bestAway_29 kvX2_leaveOut mlX3_50 rfl (az_rc_obj clX2 (hF 1 _ rfl)) (z_X2_leaveOut l G (d + 3) sh sg la (o + 1) cn i9 hT hO (by omega) haw) (by omega) (Nat.le_refl _) (Nat.le_refl _) rfl (Nat.le_of_ble_eq_true rfl) (fun r S1 hp => ?_)
        obtain ⟨rfl, rfl⟩ := hp
        show AW l G mX3_bestAway (d + 5) (az_F G Post) 0 0 32 [some (.ref o), some (.ref n0), some (.int (b2i (lg = true))), some (.int x3), some (.int x4), some (.int (nI i9)), none] [] (sh, (zput sg (o + 1) (zleave cn i9)), la)
        refine A_aload_n dX3_bestAway_32 rfl rfl ?_
        refine B_getR (r := (o + 1)) dX3_bestAway_33 flX3_12 (hF 0 _ rfl) rfl ?_
        refine A_bipush (v := 60) dX3_bestAway_36 (by decide) ?_
        refine A_callV (n := 0) dX3_bestAway_38 kvX2_firstSo mlX3_30 rfl (az_rc_obj clX2 (hF 1 _ rfl)) (z_X2_firstSo l G d sh sg la (o + 1) (zleave cn i9) 60 hT (cRng_leave hRn i9) (by omega)) (by omega) (Nat.le_refl _) (Nat.le_refl _) rfl (Nat.le_of_ble_eq_true rfl) (fun r S1 hp => ?_)
        obtain ⟨rfl, rfl⟩ := hp
        show AW l G mX3_bestAway (d + 5) (az_F G Post) 0 0 41 [some (.ref o), some (.ref n0), some (.int (b2i (lg = true))), some (.int x3), some (.int x4), some (.int (nI i9)), none] [.int (zwhenI (zleave cn i9) 60)] (sh, (zput sg (o + 1) (zdays (zwhen (zleave cn i9) 60) (zleave cn i9))), la)
        refine A_callS (n := 0) dX3_bestAway_41 ksX3_noneAsLast mlX3_53 rfl (c_X3_noneAsLast l G (d + 4) sh (zput sg (o + 1) (zdays (zwhen (zleave cn i9) 60) (zleave cn i9))) la (zwhenI (zleave cn i9) 60)) (by omega) (Nat.le_refl _) (Nat.le_refl _) rfl (Nat.le_of_ble_eq_true rfl) (fun r S1 hp => ?_)
        obtain ⟨rfl, rfl⟩ := hp
        show AW l G mX3_bestAway (d + 5) (az_F G Post) 0 0 44 [some (.ref o), some (.ref n0), some (.int (b2i (lg = true))), some (.int x3), some (.int x4), some (.int (nI i9)), none] [.int (znl (zwhenI (zleave cn i9) 60))] (sh, (zput sg (o + 1) (zdays (zwhen (zleave cn i9) 60) (zleave cn i9))), la)
        refine A_istore (lo2 := [some (.ref o), some (.ref n0), some (.int (b2i (lg = true))), some (.int x3), some (.int x4), some (.int (nI i9)), some (.int (znl (zwhenI (zleave cn i9) 60)))]) dX3_bestAway_44 (by decide) rfl ?_
        have hval : znl (zwhenI (zleave cn i9) 60) = zfW cn i9 := zfW_I cn i9
        refine A_iload_n dX3_bestAway_46 rfl rfl ?_
        refine A_iconst (v := (-1)) dX3_bestAway_47 (by decide) ?_
        refine A_icmp_eq (tgt := 72) dX3_bestAway_48 rfl (fun h_3 => ?_) (fun h_3 => ?_)
        · skip
          refine A_iload dX3_bestAway_72 rfl ?_
          refine A_istore_n (lo2 := [some (.ref o), some (.ref n0), some (.int (b2i (lg = true))), some (.int (nI i9)), some (.int x4), some (.int (nI i9)), some (.int (znl (zwhenI (zleave cn i9) 60)))]) dX3_bestAway_74 rfl (by decide) rfl ?_
          refine A_iload dX3_bestAway_75 rfl ?_
          refine A_istore (lo2 := [some (.ref o), some (.ref n0), some (.int (b2i (lg = true))), some (.int (nI i9)), some (.int (znl (zwhenI (zleave cn i9) 60))), some (.int (nI i9)), some (.int (znl (zwhenI (zleave cn i9) 60)))]) dX3_bestAway_77 (by decide) rfl ?_
          refine A_iinc (v := nI (i9 + 1)) (lo2 := [some (.ref o), some (.ref n0), some (.int (b2i (lg = true))), some (.int (nI i9)), some (.int (znl (zwhenI (zleave cn i9) 60))), some (.int (nI (i9 + 1))), some (.int (znl (zwhenI (zleave cn i9) 60)))]) dX3_bestAway_79 rfl (nI_1 i9) (by decide) rfl ?_
          refine A_goto (tgt := 8) dX3_bestAway_82 rfl ?_
          refine A_forget (lo2 := [some (.ref o), some (.ref n0), some (.int (b2i (lg = true))), some (.int (nI i9)), some (.int (znl (zwhenI (zleave cn i9) 60))), some (.int (nI (i9 + 1))), none]) ⟨rfl, rfl, rfl, rfl, rfl, rfl, trivial⟩ ?_
          refine ih (i9 + 1) _ _ _ (by omega) (cTl_days (cTl_leave ht2 _) h8 _) ?_ ?_
          · skip
            rw [zbst_first (zbst_none (by rw [← e_x3]; exact h_3) (by omega))]; rfl
          · skip
            rw [zbday_some (zbst_first (zbst_none (by rw [← e_x3]; exact h_3) (by omega)))]; exact hval
        · skip
          refine A_iload_n dX3_bestAway_51 rfl rfl ?_
          refine A_if_eq (tgt := 65) dX3_bestAway_52 rfl (fun h_4 => ?_) (fun h_4 => ?_)
          · skip
            have h_4' := b2i_0.mp h_4
            refine A_iload dX3_bestAway_65 rfl ?_
            refine A_iload dX3_bestAway_67 rfl ?_
            refine A_icmp_ge (tgt := 79) dX3_bestAway_69 rfl (fun h_5 => ?_) (fun h_5 => ?_)
            · skip
              refine A_iinc (v := nI (i9 + 1)) (lo2 := [some (.ref o), some (.ref n0), some (.int (b2i (lg = true))), some (.int x3), some (.int x4), some (.int (nI (i9 + 1))), some (.int (znl (zwhenI (zleave cn i9) 60)))]) dX3_bestAway_79 rfl (nI_1 i9) (by decide) rfl ?_
              refine A_goto (tgt := 8) dX3_bestAway_82 rfl ?_
              refine A_forget (lo2 := [some (.ref o), some (.ref n0), some (.int (b2i (lg = true))), some (.int x3), some (.int x4), some (.int (nI (i9 + 1))), none]) ⟨rfl, rfl, rfl, rfl, rfl, rfl, trivial⟩ ?_
              refine ih (i9 + 1) _ _ _ (by omega) (cTl_days (cTl_leave ht2 _) h8 _) ?_ ?_
              · skip
                rw [zbst_no (by rw [← e_x3]; exact h_3) (by rw [← e_x4]; rw [show lg = false from Bool.eq_false_iff.mpr (b2i_0.mp h_4)]; exact fun q => absurd (zcmp_f.mp q) (by rw [← hval]; exact Int32.not_lt.mpr h_5))]; exact e_x3
              · skip
                rw [zbday_eq (zbst_no (by rw [← e_x3]; exact h_3) (by rw [← e_x4]; rw [show lg = false from Bool.eq_false_iff.mpr (b2i_0.mp h_4)]; exact fun q => absurd (zcmp_f.mp q) (by rw [← hval]; exact Int32.not_lt.mpr h_5)))]; exact e_x4
            · skip
              refine A_iload dX3_bestAway_72 rfl ?_
              refine A_istore_n (lo2 := [some (.ref o), some (.ref n0), some (.int (b2i (lg = true))), some (.int (nI i9)), some (.int x4), some (.int (nI i9)), some (.int (znl (zwhenI (zleave cn i9) 60)))]) dX3_bestAway_74 rfl (by decide) rfl ?_
              refine A_iload dX3_bestAway_75 rfl ?_
              refine A_istore (lo2 := [some (.ref o), some (.ref n0), some (.int (b2i (lg = true))), some (.int (nI i9)), some (.int (znl (zwhenI (zleave cn i9) 60))), some (.int (nI i9)), some (.int (znl (zwhenI (zleave cn i9) 60)))]) dX3_bestAway_77 (by decide) rfl ?_
              refine A_iinc (v := nI (i9 + 1)) (lo2 := [some (.ref o), some (.ref n0), some (.int (b2i (lg = true))), some (.int (nI i9)), some (.int (znl (zwhenI (zleave cn i9) 60))), some (.int (nI (i9 + 1))), some (.int (znl (zwhenI (zleave cn i9) 60)))]) dX3_bestAway_79 rfl (nI_1 i9) (by decide) rfl ?_
              refine A_goto (tgt := 8) dX3_bestAway_82 rfl ?_
              refine A_forget (lo2 := [some (.ref o), some (.ref n0), some (.int (b2i (lg = true))), some (.int (nI i9)), some (.int (znl (zwhenI (zleave cn i9) 60))), some (.int (nI (i9 + 1))), none]) ⟨rfl, rfl, rfl, rfl, rfl, rfl, trivial⟩ ?_
              refine ih (i9 + 1) _ _ _ (by omega) (cTl_days (cTl_leave ht2 _) h8 _) ?_ ?_
              · skip
                rw [zbst_yes (by rw [← e_x3]; exact h_3) (by rw [← e_x4]; rw [show lg = false from Bool.eq_false_iff.mpr (b2i_0.mp h_4)]; exact zcmp_f.mpr (by rw [← hval]; exact Int32.not_le.mp h_5))]; rfl
              · skip
                rw [zbday_some (zbst_yes (by rw [← e_x3]; exact h_3) (by rw [← e_x4]; rw [show lg = false from Bool.eq_false_iff.mpr (b2i_0.mp h_4)]; exact zcmp_f.mpr (by rw [← hval]; exact Int32.not_le.mp h_5)))]; exact hval
          · skip
            have h_4' := b2i_n.mp h_4
            refine A_iload dX3_bestAway_55 rfl ?_
            refine A_iload dX3_bestAway_57 rfl ?_
            refine A_icmp_le (tgt := 79) dX3_bestAway_59 rfl (fun h_6 => ?_) (fun h_6 => ?_)
            · skip
              refine A_iinc (v := nI (i9 + 1)) (lo2 := [some (.ref o), some (.ref n0), some (.int (b2i (lg = true))), some (.int x3), some (.int x4), some (.int (nI (i9 + 1))), some (.int (znl (zwhenI (zleave cn i9) 60)))]) dX3_bestAway_79 rfl (nI_1 i9) (by decide) rfl ?_
              refine A_goto (tgt := 8) dX3_bestAway_82 rfl ?_
              refine A_forget (lo2 := [some (.ref o), some (.ref n0), some (.int (b2i (lg = true))), some (.int x3), some (.int x4), some (.int (nI (i9 + 1))), none]) ⟨rfl, rfl, rfl, rfl, rfl, rfl, trivial⟩ ?_
              refine ih (i9 + 1) _ _ _ (by omega) (cTl_days (cTl_leave ht2 _) h8 _) ?_ ?_
              · skip
                rw [zbst_no (by rw [← e_x3]; exact h_3) (by rw [← e_x4]; rw [show lg = true from b2i_n.mp h_4]; exact fun q => absurd (zcmp_t.mp q) (by rw [← hval]; exact Int32.not_lt.mpr h_6))]; exact e_x3
              · skip
                rw [zbday_eq (zbst_no (by rw [← e_x3]; exact h_3) (by rw [← e_x4]; rw [show lg = true from b2i_n.mp h_4]; exact fun q => absurd (zcmp_t.mp q) (by rw [← hval]; exact Int32.not_lt.mpr h_6)))]; exact e_x4
            · skip
              refine A_goto (tgt := 72) dX3_bestAway_62 rfl ?_
              refine A_iload dX3_bestAway_72 rfl ?_
              refine A_istore_n (lo2 := [some (.ref o), some (.ref n0), some (.int (b2i (lg = true))), some (.int (nI i9)), some (.int x4), some (.int (nI i9)), some (.int (znl (zwhenI (zleave cn i9) 60)))]) dX3_bestAway_74 rfl (by decide) rfl ?_
              refine A_iload dX3_bestAway_75 rfl ?_
              refine A_istore (lo2 := [some (.ref o), some (.ref n0), some (.int (b2i (lg = true))), some (.int (nI i9)), some (.int (znl (zwhenI (zleave cn i9) 60))), some (.int (nI i9)), some (.int (znl (zwhenI (zleave cn i9) 60)))]) dX3_bestAway_77 (by decide) rfl ?_
              refine A_iinc (v := nI (i9 + 1)) (lo2 := [some (.ref o), some (.ref n0), some (.int (b2i (lg = true))), some (.int (nI i9)), some (.int (znl (zwhenI (zleave cn i9) 60))), some (.int (nI (i9 + 1))), some (.int (znl (zwhenI (zleave cn i9) 60)))]) dX3_bestAway_79 rfl (nI_1 i9) (by decide) rfl ?_
              refine A_goto (tgt := 8) dX3_bestAway_82 rfl ?_
              refine A_forget (lo2 := [some (.ref o), some (.ref n0), some (.int (b2i (lg = true))), some (.int (nI i9)), some (.int (znl (zwhenI (zleave cn i9) 60))), some (.int (nI (i9 + 1))), none]) ⟨rfl, rfl, rfl, rfl, rfl, rfl, trivial⟩ ?_
              refine ih (i9 + 1) _ _ _ (by omega) (cTl_days (cTl_leave ht2 _) h8 _) ?_ ?_
              · skip
                rw [zbst_yes (by rw [← e_x3]; exact h_3) (by rw [← e_x4]; rw [show lg = true from b2i_n.mp h_4]; exact zcmp_t.mpr (by rw [← hval]; exact Int32.not_le.mp h_6))]; rfl
              · skip
                rw [zbday_some (zbst_yes (by rw [← e_x3]; exact h_3) (by rw [← e_x4]; rw [show lg = true from b2i_n.mp h_4]; exact zcmp_t.mpr (by rw [← hval]; exact Int32.not_le.mp h_6)))]; exact hval
  exact loop (cN cn) 0 _ _ _ (by omega) ht (rfl) (rfl)
set_option maxHeartbeats 600000 in
set_option maxRecDepth 100000 in
theorem f_X3_warmThese (l : Launch) (G : az_Gh) (d : Nat) (sh : List az_Sh) (sg : Nat → Nat → Int32) (la : Nat → Nat → Int64) (o : Nat) (c : CT) (w : Int32) (hF : az_at sh o (lyF o)) (hOc : cOk c) : FM l G (d + 2) mX3_warmThese [.ref o, .int w] (sh, (zput sg (o + 1) c), la) (none) (sh, zput sg (o + 1) (zmf c (fun j => decide ((w >>> (nI j &&& 31)) &&& 1 = 1)) 20 (cN c)), la) := by
  refine az_fm knX3_warmThese (Nat.le_of_ble_eq_true rfl) rfl (fun Post hP => ?_)
  show AW l G mX3_warmThese (d + 2) (az_F G Post) 0 0 0 [some (.ref o), some (.int w), none] [] (sh, (zput sg (o + 1) c), la)
  have hT := lyF_C hF
  have h8 := hOc.2
  refine A_iconst (v := 0) dX3_warmThese_0 (by decide) ?_
  refine A_istore_n (lo2 := [some (.ref o), some (.int w), some (.int 0)]) dX3_warmThese_1 rfl (by decide) rfl ?_
  have loop : ∀ (q_i9 i9 : Nat) (e1 : CT), i9 + q_i9 = cN c → e1 = zmf c (fun j => decide ((w >>> (nI j &&& 31)) &&& 1 = 1)) 20 i9 → AW l G mX3_warmThese (d + 2) (az_F G Post) 0 0 2 [some (.ref o), some (.int w), some (.int (nI i9))] [] (sh, (zput sg (o + 1) e1), la) := by
    intro q_i9
    induction q_i9 with
    | zero =>
      intro i9 e1 hi_i9  e_e1
      have hN_i9 : i9 = cN c := by omega
      subst hN_i9
      refine A_iload_n dX3_warmThese_2 rfl rfl ?_
      refine A_aload_n dX3_warmThese_3 rfl rfl ?_
      refine B_getR (r := (o + 1)) dX3_warmThese_4 flX3_12 (hF 0 _ rfl) rfl ?_
      refine B_getV (nI (cN c)) dX3_warmThese_7 flX3_34 (hF 1 _ rfl) rfl ((zr_5 _ _ _).trans (by rw [e_e1]; exact hOc.1)) ?_
      refine A_icmp_ge (tgt := 38) dX3_warmThese_10 rfl (fun h_1 => ?_) (fun h_1 => ?_)
      · skip
        exact A_vret dX3_warmThese_38 rfl (az_pv hP (by rw [e_e1]))
      · skip
        exact absurd (Int32.le_refl _) h_1
    | succ q_i9 ih =>
      intro i9 e1 hi_i9  e_e1
      refine A_iload_n dX3_warmThese_2 rfl rfl ?_
      refine A_aload_n dX3_warmThese_3 rfl rfl ?_
      refine B_getR (r := (o + 1)) dX3_warmThese_4 flX3_12 (hF 0 _ rfl) rfl ?_
      refine B_getV (nI (cN c)) dX3_warmThese_7 flX3_34 (hF 1 _ rfl) rfl ((zr_5 _ _ _).trans (by rw [e_e1]; exact hOc.1)) ?_
      refine A_icmp_ge (tgt := 38) dX3_warmThese_10 rfl (fun h_2 => ?_) (fun h_2 => ?_)
      · skip
        exact absurd h_2 (nI_ge (by omega) (by omega))
      · skip
        refine A_iload_n dX3_warmThese_13 rfl rfl ?_
        refine A_iload_n dX3_warmThese_14 rfl rfl ?_
        refine A_ishr dX3_warmThese_15 ?_
        refine A_iconst (v := 1) dX3_warmThese_16 (by decide) ?_
        refine A_iand dX3_warmThese_17 ?_
        refine A_iconst (v := 1) dX3_warmThese_18 (by decide) ?_
        refine A_icmp_ne (tgt := 32) dX3_warmThese_19 rfl (fun h_3 => ?_) (fun h_3 => ?_)
        · skip
          refine A_iinc (v := nI (i9 + 1)) (lo2 := [some (.ref o), some (.int w), some (.int (nI (i9 + 1)))]) dX3_warmThese_32 rfl (nI_1 i9) (by decide) rfl ?_
          refine A_goto (tgt := 2) dX3_warmThese_35 rfl ?_
          refine ih (i9 + 1) _ (by omega) ?_
          · skip
            rw [zmf_no (g := (fun j => decide ((w >>> (nI j &&& 31)) &&& 1 = 1))) (decide_eq_false h_3), e_e1]
        · skip
          refine A_aload_n dX3_warmThese_22 rfl rfl ?_
          refine B_getR (r := (o + 1)) dX3_warmThese_23 flX3_12 (hF 0 _ rfl) rfl ?_
          refine A_iload_n dX3_warmThese_26 rfl rfl ?_
          refine A_bipush (v := 20) dX3_warmThese_27 (by decide) ?_
          refine A_callV (n := 0) dX3_warmThese_29 kvX2_feedMore mlX3_37 rfl (az_rc_obj clX2 (hF 1 _ rfl)) (z_X2_feedMore l G d sh sg la (o + 1) e1 i9 20 hT (by rw [e_e1]; exact hOc) (by rw [e_e1]; show i9 < cN c; omega)) (by omega) (Nat.le_refl _) (Nat.le_refl _) rfl (Nat.le_of_ble_eq_true rfl) (fun r S1 hp => ?_)
          obtain ⟨rfl, rfl⟩ := hp
          show AW l G mX3_warmThese (d + 2) (az_F G Post) 0 0 32 [some (.ref o), some (.int w), some (.int (nI i9))] [] (sh, (zput sg (o + 1) (zmore e1 i9 20)), la)
          refine A_iinc (v := nI (i9 + 1)) (lo2 := [some (.ref o), some (.int w), some (.int (nI (i9 + 1)))]) dX3_warmThese_32 rfl (nI_1 i9) (by decide) rfl ?_
          refine A_goto (tgt := 2) dX3_warmThese_35 rfl ?_
          refine ih (i9 + 1) _ (by omega) ?_
          · skip
            rw [zmf_yes (g := (fun j => decide ((w >>> (nI j &&& 31)) &&& 1 = 1))) (decide_eq_true h_3), e_e1]
  exact loop (cN c) 0 _ (by omega) ((zmf_0 c _ _).symm)
set_option maxHeartbeats 600000 in
set_option maxRecDepth 100000 in
theorem f_X3_leastForEach (l : Launch) (G : az_Gh) (d : Nat) (sh : List az_Sh) (sg : Nat → Nat → Int32) (la : Nat → Nat → Int64) (o n0 : Nat) (c cn : CT) (t : Nat) (hF : az_at sh o (lyF o)) (hC2 : az_at sh n0 (lyC n0)) (hd : n0 + 5 < o ∨ o + 7 ≤ n0) (hcn : ct sg n0 = cn) (ht : cTl c) (ht2 : cTl cn) (hRn : cRng cn) (h60 : t ≤ 60) : AM l G (d + 5) mX3_leastForEach [.ref o, .ref n0, .int (nI t)] (sh, zput sg (o + 1) c, la) 0 0 (fun r1 S1 => r1 = some (.int (oI (zeach cn t))) ∧ ∃ e, cTl e ∧ S1 = (sh, zput sg (o + 1) e, la)) := by
  refine az_am knX3_leastForEach (Nat.le_of_ble_eq_true rfl) rfl (fun Post hP => ?_)
  show AW l G mX3_leastForEach (d + 5) (az_F G Post) 0 0 0 [some (.ref o), some (.ref n0), some (.int (nI t)), none, none] [] (sh, (zput sg (o + 1) c), la)
  have hT := lyF_C hF
  have hO := hRn.1
  have h8 := hO.2
  have hpp : sg n0 5 = nI (cN cn) := by have q := hRn.1.1; rw [← hcn] at q ⊢; exact q
  refine A_iconst (v := 0) dX3_leastForEach_0 (by decide) ?_
  refine A_istore_n (lo2 := [some (.ref o), some (.ref n0), some (.int (nI t)), some (.int 0), none]) dX3_leastForEach_1 rfl (by decide) rfl ?_
  have loop : ∀ (q_i9 i9 : Nat) (e1 : CT), i9 + q_i9 = 41 → cTl e1 → (∀ k, k < i9 → zno (zmf cn (fun _ => true) (nI k) (cN cn)) t = false) → AW l G mX3_leastForEach (d + 5) (az_F G Post) 0 0 2 [some (.ref o), some (.ref n0), some (.int (nI t)), some (.int (nI i9)), none] [] (sh, (zput sg (o + 1) e1), la) := by
    intro q_i9
    induction q_i9 with
    | zero =>
      intro i9 e1 hi_i9 ht1 hno 
      have hN_i9 : i9 = 41 := by omega
      subst hN_i9
      refine A_iload_n dX3_leastForEach_2 rfl rfl ?_
      refine A_bipush (v := 40) dX3_leastForEach_3 (by decide) ?_
      refine A_icmp_gt (tgt := 62) dX3_leastForEach_5 rfl (fun h_1 => ?_) (fun h_1 => ?_)
      · skip
        refine A_iconst (v := (-1)) dX3_leastForEach_62 (by decide) ?_
        refine A_iret dX3_leastForEach_63 rfl (hP _ _ ⟨congrArg (fun z => some (Value.int z)) ?_, _, ht1, rfl⟩)
        (unfold zeach; rw [zfind_none hno]; rfl)
      · skip
        exact absurd (by decide) h_1
    | succ q_i9 ih =>
      intro i9 e1 hi_i9 ht1 hno 
      refine A_iload_n dX3_leastForEach_2 rfl rfl ?_
      refine A_bipush (v := 40) dX3_leastForEach_3 (by decide) ?_
      refine A_icmp_gt (tgt := 62) dX3_leastForEach_5 rfl (fun h_2 => ?_) (fun h_2 => ?_)
      · skip
        exact absurd h_2 (nI_nlt (b := i9) (a := 40) (by omega) (by decide))
      · skip
        refine A_aload_n dX3_leastForEach_8 rfl rfl ?_
        refine A_aload_n dX3_leastForEach_9 rfl rfl ?_
        refine A_callV (n := 0) dX3_leastForEach_10 kvX3_begin mlX3_26 rfl (az_rc_obj clX3 (hF 0 _ rfl)) (f_X3_begin l G (d + 1) sh sg la o n0 e1 cn hF hC2 hd hcn ht1 ht2 hRn) (by omega) (Nat.le_refl _) (Nat.le_refl _) rfl (Nat.le_of_ble_eq_true rfl) (fun r S1 hp => ?_)
        obtain ⟨rfl, rfl⟩ := hp
        show AW l G mX3_leastForEach (d + 5) (az_F G Post) 0 0 13 [some (.ref o), some (.ref n0), some (.int (nI t)), some (.int (nI i9)), none] [.ref (o + 1)] (sh, (zput sg (o + 1) cn), la)
        refine A_pop dX3_leastForEach_13 rfl ?_
        refine A_iconst (v := 0) dX3_leastForEach_14 (by decide) ?_
        refine A_istore (lo2 := [some (.ref o), some (.ref n0), some (.int (nI t)), some (.int (nI i9)), some (.int 0)]) dX3_leastForEach_15 (by decide) rfl ?_
        have loop2 : ∀ (q_j9 j9 : Nat) (e2 : CT), j9 + q_j9 = cN cn → e2 = zmf cn (fun _ => true) (nI i9) j9 → AW l G mX3_leastForEach (d + 5) (az_F G Post) 0 0 17 [some (.ref o), some (.ref n0), some (.int (nI t)), some (.int (nI i9)), some (.int (nI j9))] [] (sh, (zput sg (o + 1) e2), la) := by
          intro q_j9
          induction q_j9 with
          | zero =>
            intro j9 e2 hi_j9  e_e2
            have hN_j9 : j9 = cN cn := by omega
            subst hN_j9
            refine A_iload dX3_leastForEach_17 rfl ?_
            refine A_aload_n dX3_leastForEach_19 rfl rfl ?_
            refine B_getV (nI (cN cn)) dX3_leastForEach_20 flX3_34 (hC2 0 _ rfl) rfl ((congrFun (zput_ne (by omega)) 5).trans hpp) ?_
            refine A_icmp_ge (tgt := 42) dX3_leastForEach_23 rfl (fun h_3 => ?_) (fun h_3 => ?_)
            · skip
              refine A_aload_n dX3_leastForEach_42 rfl rfl ?_
              refine B_getR (r := (o + 1)) dX3_leastForEach_43 flX3_12 (hF 0 _ rfl) rfl ?_
              refine A_iload_n dX3_leastForEach_46 rfl rfl ?_
              refine A_callV (n := 0) dX3_leastForEach_47 kvX2_firstSo mlX3_30 rfl (az_rc_obj clX2 (hF 1 _ rfl)) (z_X2_firstSo l G d sh sg la (o + 1) e2 t hT (by rw [e_e2]; exact cRng_mf hRn (nI_le40 (by omega)) _) (by omega)) (by omega) (Nat.le_refl _) (Nat.le_refl _) rfl (Nat.le_of_ble_eq_true rfl) (fun r S1 hp => ?_)
              obtain ⟨rfl, rfl⟩ := hp
              show AW l G mX3_leastForEach (d + 5) (az_F G Post) 0 0 50 [some (.ref o), some (.ref n0), some (.int (nI t)), some (.int (nI i9)), some (.int (nI (cN cn)))] [.int (zwhenI e2 t)] (sh, (zput sg (o + 1) (zdays (zwhen e2 t) e2)), la)
              refine A_iconst (v := (-1)) dX3_leastForEach_50 (by decide) ?_
              refine A_icmp_ne (tgt := 56) dX3_leastForEach_51 rfl (fun h_4 => ?_) (fun h_4 => ?_)
              · skip
                refine A_iinc (v := nI (i9 + 1)) (lo2 := [some (.ref o), some (.ref n0), some (.int (nI t)), some (.int (nI (i9 + 1))), some (.int (nI (cN cn)))]) dX3_leastForEach_56 rfl (nI_1 i9) (by decide) rfl ?_
                refine A_goto (tgt := 2) dX3_leastForEach_59 rfl ?_
                refine A_forget (lo2 := [some (.ref o), some (.ref n0), some (.int (nI t)), some (.int (nI (i9 + 1))), none]) ⟨rfl, rfl, rfl, rfl, trivial⟩ ?_
                refine ih (i9 + 1) _ (by omega) (cTl_days (by rw [e_e2]; exact cTl_mf ht2 h8) (by rw [e_e2]; exact h8) _) (lt_s hno (by have q := h_4; rw [e_e2, zno_I (by omega)] at q; exact Bool.eq_false_iff.mpr q))
              · skip
                refine A_iload_n dX3_leastForEach_54 rfl rfl ?_
                refine A_iret dX3_leastForEach_55 rfl (hP _ _ ⟨congrArg (fun z => some (Value.int z)) ?_, _, (cTl_days (by rw [e_e2]; exact cTl_mf ht2 h8) (by rw [e_e2]; exact h8) _), rfl⟩)
                (unfold zeach; rw [zfind_some (i := i9) (by omega) (by have q := h_4; rw [e_e2, zno_I (by omega)] at q; exact q) hno]; rfl)
            · skip
              exact absurd (Int32.le_refl _) h_3
          | succ q_j9 ih =>
            intro j9 e2 hi_j9  e_e2
            refine A_iload dX3_leastForEach_17 rfl ?_
            refine A_aload_n dX3_leastForEach_19 rfl rfl ?_
            refine B_getV (nI (cN cn)) dX3_leastForEach_20 flX3_34 (hC2 0 _ rfl) rfl ((congrFun (zput_ne (by omega)) 5).trans hpp) ?_
            refine A_icmp_ge (tgt := 42) dX3_leastForEach_23 rfl (fun h_5 => ?_) (fun h_5 => ?_)
            · skip
              exact absurd h_5 (nI_ge (by omega) (by omega))
            · skip
              refine A_aload_n dX3_leastForEach_26 rfl rfl ?_
              refine B_getR (r := (o + 1)) dX3_leastForEach_27 flX3_12 (hF 0 _ rfl) rfl ?_
              refine A_iload dX3_leastForEach_30 rfl ?_
              refine A_iload_n dX3_leastForEach_32 rfl rfl ?_
              refine A_callV (n := 0) dX3_leastForEach_33 kvX2_feedMore mlX3_37 rfl (az_rc_obj clX2 (hF 1 _ rfl)) (z_X2_feedMore l G (d + 3) sh sg la (o + 1) e2 j9 (nI i9) hT (by rw [e_e2]; exact hO) (by rw [e_e2]; show j9 < cN cn; omega)) (by omega) (Nat.le_refl _) (Nat.le_refl _) rfl (Nat.le_of_ble_eq_true rfl) (fun r S1 hp => ?_)
              obtain ⟨rfl, rfl⟩ := hp
              show AW l G mX3_leastForEach (d + 5) (az_F G Post) 0 0 36 [some (.ref o), some (.ref n0), some (.int (nI t)), some (.int (nI i9)), some (.int (nI j9))] [] (sh, (zput sg (o + 1) (zmore e2 j9 (nI i9))), la)
              refine A_iinc (v := nI (j9 + 1)) (lo2 := [some (.ref o), some (.ref n0), some (.int (nI t)), some (.int (nI i9)), some (.int (nI (j9 + 1)))]) dX3_leastForEach_36 rfl (nI_1 j9) (by decide) rfl ?_
              refine A_goto (tgt := 17) dX3_leastForEach_39 rfl ?_
              refine ih (j9 + 1) _ (by omega) ?_
              · skip
                rw [zmf_yes (g := fun _ => true) rfl, e_e2]
        exact loop2 (cN cn) 0 _ (by omega) ((zmf_0 cn _ _).symm)
  exact loop (41) 0 _ (by omega) ht lt_0
set_option maxHeartbeats 600000 in
set_option maxRecDepth 100000 in
theorem f_X3_firstWrong (l : Launch) (G : az_Gh) (d : Nat) (sh : List az_Sh) (sg : Nat → Nat → Int32) (la : Nat → Nat → Int64) (o n0 : Nat) (c cn : CT) (s0 m : Nat) (hF : az_at sh o (lyF o)) (hC2 : az_at sh n0 (lyC n0)) (hd : n0 + 5 < o ∨ o + 7 ≤ n0) (hcn : ct sg n0 = cn) (ht : cTl c) (ht2 : cTl cn) (hRn : cRng cn) (hS : az_at sh s0 (lyS s0)) (hds : s0 < o + 1 ∨ o + 7 ≤ s0) (hz : ∃ z, sg s0 2 = nI z ∧ z ≤ 40) (hm : m ≤ 40) : AM l G (d + 4) mX3_firstWrong [.ref o, .ref n0, .ref s0, .int (nI m)] (sh, zput sg (o + 1) c, la) 0 0 (fun r1 S1 => r1 = some (.int (oI (zwrg sg la s0 cn m))) ∧ ∃ e, cTl e ∧ S1 = (sh, zput sg (o + 1) e, la)) := by
  refine az_am knX3_firstWrong (Nat.le_of_ble_eq_true rfl) rfl (fun Post hP => ?_)
  show AW l G mX3_firstWrong (d + 4) (az_F G Post) 0 0 0 [some (.ref o), some (.ref n0), some (.ref s0), some (.int (nI m)), none] [] (sh, (zput sg (o + 1) c), la)
  have hT := lyF_C hF
  have hO := hRn.1
  have h8 := hO.2
  have hpp : sg n0 5 = nI (cN cn) := by have q := hRn.1.1; rw [← hcn] at q ⊢; exact q
  refine A_aload_n dX3_firstWrong_0 rfl rfl ?_
  refine A_aload_n dX3_firstWrong_1 rfl rfl ?_
  refine A_callV (n := 0) dX3_firstWrong_2 kvX3_begin mlX3_26 rfl (az_rc_obj clX3 (hF 0 _ rfl)) (f_X3_begin l G d sh sg la o n0 c cn hF hC2 hd hcn ht ht2 hRn) (by omega) (Nat.le_refl _) (Nat.le_refl _) rfl (Nat.le_of_ble_eq_true rfl) (fun r S1 hp => ?_)
  obtain ⟨rfl, rfl⟩ := hp
  show AW l G mX3_firstWrong (d + 4) (az_F G Post) 0 0 5 [some (.ref o), some (.ref n0), some (.ref s0), some (.int (nI m)), none] [.ref (o + 1)] (sh, (zput sg (o + 1) cn), la)
  refine A_pop dX3_firstWrong_5 rfl ?_
  refine A_iconst (v := 0) dX3_firstWrong_6 (by decide) ?_
  refine A_istore (lo2 := [some (.ref o), some (.ref n0), some (.ref s0), some (.int (nI m)), some (.int 0)]) dX3_firstWrong_7 (by decide) rfl ?_
  have loop : ∀ (q_i9 i9 : Nat) (e1 : CT), i9 + q_i9 = m → (∀ k, k < i9 → decide (¬ zat sg la s0 (nI k) = (oI (zbest (zdays k cn))).toInt64) = false) → e1 = zdays i9 cn → AW l G mX3_firstWrong (d + 4) (az_F G Post) 0 0 9 [some (.ref o), some (.ref n0), some (.ref s0), some (.int (nI m)), some (.int (nI i9))] [] (sh, (zput sg (o + 1) e1), la) := by
    intro q_i9
    induction q_i9 with
    | zero =>
      intro i9 e1 hi_i9 hno e_e1
      have hN_i9 : i9 = m := by omega
      subst hN_i9
      refine A_iload dX3_firstWrong_9 rfl ?_
      refine A_iload_n dX3_firstWrong_11 rfl rfl ?_
      refine A_icmp_ge (tgt := 50) dX3_firstWrong_12 rfl (fun h_1 => ?_) (fun h_1 => ?_)
      · skip
        refine A_iconst (v := (-1)) dX3_firstWrong_50 (by decide) ?_
        refine A_iret dX3_firstWrong_51 rfl (hP _ _ ⟨congrArg (fun z => some (Value.int z)) ?_, _, (by rw [e_e1]; exact cTl_days ht2 h8 _), rfl⟩)
        (unfold zwrg; rw [zfind_none hno]; rfl)
      · skip
        exact absurd (Int32.le_refl _) h_1
    | succ q_i9 ih =>
      intro i9 e1 hi_i9 hno e_e1
      refine A_iload dX3_firstWrong_9 rfl ?_
      refine A_iload_n dX3_firstWrong_11 rfl rfl ?_
      refine A_icmp_ge (tgt := 50) dX3_firstWrong_12 rfl (fun h_2 => ?_) (fun h_2 => ?_)
      · skip
        exact absurd h_2 (nI_ge (by omega) (by omega))
      · skip
        refine A_aload_n dX3_firstWrong_15 rfl rfl ?_
        refine A_iload dX3_firstWrong_16 rfl ?_
        refine A_callV (n := 0) dX3_firstWrong_18 kvX4_at mlX3_75 rfl (az_rc_obj clX4 (hS 0 _ rfl)) (zs_at l G (d + 2) sh sg la (o + 1) e1 s0 (nI i9) hS (by omega) hz) (by omega) (Nat.le_refl _) (Nat.le_refl _) rfl (Nat.le_of_ble_eq_true rfl) (fun r S1 hp => ?_)
        obtain ⟨rfl, rfl⟩ := hp
        show AW l G mX3_firstWrong (d + 4) (az_F G Post) 0 0 21 [some (.ref o), some (.ref n0), some (.ref s0), some (.int (nI m)), some (.int (nI i9))] [.long (zat sg la s0 (nI i9))] (sh, (zput sg (o + 1) e1), la)
        refine A_aload_n dX3_firstWrong_21 rfl rfl ?_
        refine B_getR (r := (o + 1)) dX3_firstWrong_22 flX3_12 (hF 0 _ rfl) rfl ?_
        refine A_callV (n := 0) dX3_firstWrong_25 kvX2_coldestOne mlX3_98 rfl (az_rc_obj clX2 (hF 1 _ rfl)) (z_X2_coldestOne l G (d + 1) sh sg la (o + 1) e1 hT ((show cRng e1 from by rw [e_e1]; exact zdays_Rng hRn _)).1 (cRng_pos (show cRng e1 from by rw [e_e1]; exact zdays_Rng hRn _))) (by omega) (Nat.le_refl _) (Nat.le_refl _) rfl (Nat.le_of_ble_eq_true rfl) (fun r S1 hp => ?_)
        obtain ⟨rfl, rfl⟩ := hp
        show AW l G mX3_firstWrong (d + 4) (az_F G Post) 0 0 28 [some (.ref o), some (.ref n0), some (.ref s0), some (.int (nI m)), some (.int (nI i9))] [.int (oI (zbest e1)), .long (zat sg la s0 (nI i9))] (sh, (zput sg (o + 1) e1), la)
        refine A_i2l dX3_firstWrong_28 ?_
        refine A_lcmp dX3_firstWrong_29 ?_
        refine A_if_eq (tgt := 36) dX3_firstWrong_30 rfl (fun h_3 => ?_) (fun h_3 => ?_)
        · skip
          refine A_aload_n dX3_firstWrong_36 rfl rfl ?_
          refine B_getR (r := (o + 1)) dX3_firstWrong_37 flX3_12 (hF 0 _ rfl) rfl ?_
          refine A_iconst (v := 1) dX3_firstWrong_40 (by decide) ?_
          refine A_callV (n := 0) dX3_firstWrong_41 kvX2_coolDown mlX3_60 rfl (az_rc_obj clX2 (hF 1 _ rfl)) (z_X2_coolDown l G (d + 2) sh sg la (o + 1) e1 1 hT ((show cRng e1 from by rw [e_e1]; exact zdays_Rng hRn _)).1) (by omega) (Nat.le_refl _) (Nat.le_refl _) rfl (Nat.le_of_ble_eq_true rfl) (fun r S1 hp => ?_)
          obtain ⟨rfl, rfl⟩ := hp
          show AW l G mX3_firstWrong (d + 4) (az_F G Post) 0 0 44 [some (.ref o), some (.ref n0), some (.ref s0), some (.int (nI m)), some (.int (nI i9))] [] (sh, (zput sg (o + 1) (zcool 1 e1)), la)
          refine A_iinc (v := nI (i9 + 1)) (lo2 := [some (.ref o), some (.ref n0), some (.ref s0), some (.int (nI m)), some (.int (nI (i9 + 1)))]) dX3_firstWrong_44 rfl (nI_1 i9) (by decide) rfl ?_
          refine A_goto (tgt := 9) dX3_firstWrong_47 rfl ?_
          refine ih (i9 + 1) _ (by omega) (lt_s hno (decide_eq_false (fun q => q (by rw [← e_e1]; exact lcmp_0.mp h_3)))) ?_
          · skip
            rw [e_e1]; rfl
        · skip
          refine A_iload dX3_firstWrong_33 rfl ?_
          refine A_iret dX3_firstWrong_35 rfl (hP _ _ ⟨congrArg (fun z => some (Value.int z)) ?_, _, (by rw [e_e1]; exact cTl_days ht2 h8 _), rfl⟩)
          (unfold zwrg; rw [zfind_some (i := i9) (by omega) (decide_eq_true (show ¬ _ from fun q => h_3 (lcmp_0.mpr (by rw [e_e1]; exact q)))) hno]; rfl)
  exact loop (m) 0 _ (by omega) lt_0 (rfl)
