set_option maxHeartbeats 600000 in
set_option maxRecDepth 100000 in
theorem c_J7_fill_53178 (l : Launch) (G : az_Gh) (d : Nat) (sh : List az_Sh) (sg : Nat → Nat → Int32) (la : Nat → Nat → Int64) (k n : Nat) (x : Int32) (hk : sh[k]? = some (100, n, [])) (hn : n < 100000) : FM l G (d) mJ7_fill_53178 [.ref k, .int x] (sh, sg, la) (none) (sh, va_up sg k (zfill (sg k) n x), la) := by
  refine az_fm knJ7_fill_53178 (Nat.le_of_ble_eq_true rfl) rfl (fun Post hP => ?_)
  show AW l G mJ7_fill_53178 (d) (az_F G Post) 0 0 0 [some (.ref k), some (.int x), none, none] [] (sh, sg, la)
  refine A_iconst (v := 0) dJ7_fill_53178_0 (by decide) ?_
  refine A_istore_n (lo2 := [some (.ref k), some (.int x), some (.int 0), none]) dJ7_fill_53178_1 rfl (by decide) rfl ?_
  refine A_aload_n dJ7_fill_53178_2 rfl rfl ?_
  refine B_alenI dJ7_fill_53178_3 hk ?_
  refine A_istore_n (lo2 := [some (.ref k), some (.int x), some (.int 0), some (.int (nI n))]) dJ7_fill_53178_4 rfl (by decide) rfl ?_
  have loop : ∀ (q_i9 i9 : Nat) (s1 : Nat → Nat → Int32), i9 + q_i9 = n → s1 = va_up sg k (zfill (sg k) i9 x) → AW l G mJ7_fill_53178 (d) (az_F G Post) 0 0 5 [some (.ref k), some (.int x), some (.int (nI i9)), some (.int (nI n))] [] (sh, s1, la) := by
    intro q_i9
    induction q_i9 with
    | zero =>
      intro i9 s1 hi_i9  e_s1
      have hN_i9 : i9 = n := by omega
      subst hN_i9
      refine A_iload_n dJ7_fill_53178_5 rfl rfl ?_
      refine A_iload_n dJ7_fill_53178_6 rfl rfl ?_
      refine A_icmp_ge (tgt := 20) dJ7_fill_53178_7 rfl (fun h_1 => ?_) (fun h_1 => ?_)
      · skip
        exact A_vret dJ7_fill_53178_20 rfl (az_pv hP (by rw [e_s1]))
      · skip
        exact absurd (Int32.le_refl _) h_1
    | succ q_i9 ih =>
      intro i9 s1 hi_i9  e_s1
      refine A_iload_n dJ7_fill_53178_5 rfl rfl ?_
      refine A_iload_n dJ7_fill_53178_6 rfl rfl ?_
      refine A_icmp_ge (tgt := 20) dJ7_fill_53178_7 rfl (fun h_2 => ?_) (fun h_2 => ?_)
      · skip
        exact absurd h_2 (nI_ge (by omega) (by omega))
      · skip
        refine A_aload_n dJ7_fill_53178_10 rfl rfl ?_
        refine A_iload_n dJ7_fill_53178_11 rfl rfl ?_
        refine A_iload_n dJ7_fill_53178_12 rfl rfl ?_
        refine B_iast (i := i9) dJ7_fill_53178_13 hk (by omega) (rfl) (by omega) ?_
        refine A_iinc (v := nI (i9 + 1)) (lo2 := [some (.ref k), some (.int x), some (.int (nI (i9 + 1))), some (.int (nI n))]) dJ7_fill_53178_14 rfl (nI_1 i9) (by decide) rfl ?_
        refine A_goto (tgt := 5) dJ7_fill_53178_17 rfl ?_
        refine ih (i9 + 1) _ (by omega) ?_
        · skip
          rw [e_s1, az_w_up, zfill_s]
  exact loop (n) 0 _ (by omega) (by rw [zfill_0, az_up_id])
set_option maxHeartbeats 600000 in
set_option maxRecDepth 100000 in
theorem c_J7_fill_d0a16 (l : Launch) (G : az_Gh) (d : Nat) (sh : List az_Sh) (sg : Nat → Nat → Int32) (la : Nat → Nat → Int64) (k n : Nat) (x : Int64) (hk : sh[k]? = some (101, n, [])) (hn : n < 100000) : FM l G (d) mJ7_fill_d0a16 [.ref k, .long x] (sh, sg, la) (none) (sh, sg, va_up la k (zfill (la k) n x)) := by
  refine az_fm knJ7_fill_d0a16 (Nat.le_of_ble_eq_true rfl) rfl (fun Post hP => ?_)
  show AW l G mJ7_fill_d0a16 (d) (az_F G Post) 0 0 0 [some (.ref k), some (.long x), none, none, none] [] (sh, sg, la)
  refine A_iconst (v := 0) dJ7_fill_d0a16_0 (by decide) ?_
  refine A_istore_n (lo2 := [some (.ref k), some (.long x), none, some (.int 0), none]) dJ7_fill_d0a16_1 rfl (by decide) rfl ?_
  refine A_aload_n dJ7_fill_d0a16_2 rfl rfl ?_
  refine B_alenL dJ7_fill_d0a16_3 hk ?_
  refine A_istore (lo2 := [some (.ref k), some (.long x), none, some (.int 0), some (.int (nI n))]) dJ7_fill_d0a16_4 (by decide) rfl ?_
  have loop : ∀ (q_i9 i9 : Nat) (s1 : Nat → Nat → Int64), i9 + q_i9 = n → s1 = va_up la k (zfill (la k) i9 x) → AW l G mJ7_fill_d0a16 (d) (az_F G Post) 0 0 6 [some (.ref k), some (.long x), none, some (.int (nI i9)), some (.int (nI n))] [] (sh, sg, s1) := by
    intro q_i9
    induction q_i9 with
    | zero =>
      intro i9 s1 hi_i9  e_s1
      have hN_i9 : i9 = n := by omega
      subst hN_i9
      refine A_iload_n dJ7_fill_d0a16_6 rfl rfl ?_
      refine A_iload dJ7_fill_d0a16_7 rfl ?_
      refine A_icmp_ge (tgt := 22) dJ7_fill_d0a16_9 rfl (fun h_1 => ?_) (fun h_1 => ?_)
      · skip
        exact A_vret dJ7_fill_d0a16_22 rfl (az_pv hP (by rw [e_s1]))
      · skip
        exact absurd (Int32.le_refl _) h_1
    | succ q_i9 ih =>
      intro i9 s1 hi_i9  e_s1
      refine A_iload_n dJ7_fill_d0a16_6 rfl rfl ?_
      refine A_iload dJ7_fill_d0a16_7 rfl ?_
      refine A_icmp_ge (tgt := 22) dJ7_fill_d0a16_9 rfl (fun h_2 => ?_) (fun h_2 => ?_)
      · skip
        exact absurd h_2 (nI_ge (by omega) (by omega))
      · skip
        refine A_aload_n dJ7_fill_d0a16_12 rfl rfl ?_
        refine A_iload_n dJ7_fill_d0a16_13 rfl rfl ?_
        refine A_lload_n dJ7_fill_d0a16_14 rfl rfl ?_
        refine B_last (i := i9) dJ7_fill_d0a16_15 hk (by omega) (rfl) (by omega) ?_
        refine A_iinc (v := nI (i9 + 1)) (lo2 := [some (.ref k), some (.long x), none, some (.int (nI (i9 + 1))), some (.int (nI n))]) dJ7_fill_d0a16_16 rfl (nI_1 i9) (by decide) rfl ?_
        refine A_goto (tgt := 6) dJ7_fill_d0a16_19 rfl ?_
        refine ih (i9 + 1) _ (by omega) ?_
        · skip
          rw [e_s1, az_wL_up, zfill_s]
  exact loop (n) 0 _ (by omega) (by rw [zfill_0, az_up_id])
set_option maxHeartbeats 600000 in
set_option maxRecDepth 100000 in
theorem c_J6_bitCount_0f7a4 (l : Launch) (G : az_Gh) (d : Nat) (sh : List az_Sh) (sg : Nat → Nat → Int32) (la : Nat → Nat → Int64) (x : Int32)  : FM l G (d) mJ6_bitCount_0f7a4 [.int x] (sh, sg, la) (some (.int (zbc x))) (sh, sg, la) := by
  refine az_fm knJ6_bitCount_0f7a4 (Nat.le_of_ble_eq_true rfl) rfl (fun Post hP => ?_)
  show AW l G mJ6_bitCount_0f7a4 (d) (az_F G Post) 0 0 0 [some (.int x)] [] (sh, sg, la)
  refine A_iload_n dJ6_bitCount_0f7a4_0 rfl rfl ?_
  refine A_iload_n dJ6_bitCount_0f7a4_1 rfl rfl ?_
  refine A_iconst (v := 1) dJ6_bitCount_0f7a4_2 (by decide) ?_
  refine A_iushr dJ6_bitCount_0f7a4_3 ?_
  refine A_ldcw (v := 1431655765) dJ6_bitCount_0f7a4_4 lcJ6_265 ?_
  refine A_iand dJ6_bitCount_0f7a4_7 ?_
  refine A_isub dJ6_bitCount_0f7a4_8 ?_
  refine A_istore_n (lo2 := [some (.int (x - ((Int32.toUInt32 x >>> (Int32.toUInt32 1 &&& Int32.toUInt32 31)).toInt32 &&& 1431655765)))]) dJ6_bitCount_0f7a4_9 rfl (by decide) rfl ?_
  refine A_iload_n dJ6_bitCount_0f7a4_10 rfl rfl ?_
  refine A_ldcw (v := 858993459) dJ6_bitCount_0f7a4_11 lcJ6_266 ?_
  refine A_iand dJ6_bitCount_0f7a4_14 ?_
  refine A_iload_n dJ6_bitCount_0f7a4_15 rfl rfl ?_
  refine A_iconst (v := 2) dJ6_bitCount_0f7a4_16 (by decide) ?_
  refine A_iushr dJ6_bitCount_0f7a4_17 ?_
  refine A_ldcw (v := 858993459) dJ6_bitCount_0f7a4_18 lcJ6_266 ?_
  refine A_iand dJ6_bitCount_0f7a4_21 ?_
  refine A_iadd dJ6_bitCount_0f7a4_22 ?_
  refine A_istore_n (lo2 := [some (.int (((x - ((Int32.toUInt32 x >>> (Int32.toUInt32 1 &&& Int32.toUInt32 31)).toInt32 &&& 1431655765)) &&& 858993459) + ((Int32.toUInt32 (x - ((Int32.toUInt32 x >>> (Int32.toUInt32 1 &&& Int32.toUInt32 31)).toInt32 &&& 1431655765)) >>> (Int32.toUInt32 2 &&& Int32.toUInt32 31)).toInt32 &&& 858993459)))]) dJ6_bitCount_0f7a4_23 rfl (by decide) rfl ?_
  refine A_iload_n dJ6_bitCount_0f7a4_24 rfl rfl ?_
  refine A_iload_n dJ6_bitCount_0f7a4_25 rfl rfl ?_
  refine A_iconst (v := 4) dJ6_bitCount_0f7a4_26 (by decide) ?_
  refine A_iushr dJ6_bitCount_0f7a4_27 ?_
  refine A_iadd dJ6_bitCount_0f7a4_28 ?_
  refine A_ldcw (v := 252645135) dJ6_bitCount_0f7a4_29 lcJ6_267 ?_
  refine A_iand dJ6_bitCount_0f7a4_32 ?_
  refine A_istore_n (lo2 := [some (.int (((((x - ((Int32.toUInt32 x >>> (Int32.toUInt32 1 &&& Int32.toUInt32 31)).toInt32 &&& 1431655765)) &&& 858993459) + ((Int32.toUInt32 (x - ((Int32.toUInt32 x >>> (Int32.toUInt32 1 &&& Int32.toUInt32 31)).toInt32 &&& 1431655765)) >>> (Int32.toUInt32 2 &&& Int32.toUInt32 31)).toInt32 &&& 858993459)) + (Int32.toUInt32 (((x - ((Int32.toUInt32 x >>> (Int32.toUInt32 1 &&& Int32.toUInt32 31)).toInt32 &&& 1431655765)) &&& 858993459) + ((Int32.toUInt32 (x - ((Int32.toUInt32 x >>> (Int32.toUInt32 1 &&& Int32.toUInt32 31)).toInt32 &&& 1431655765)) >>> (Int32.toUInt32 2 &&& Int32.toUInt32 31)).toInt32 &&& 858993459)) >>> (Int32.toUInt32 4 &&& Int32.toUInt32 31)).toInt32) &&& 252645135))]) dJ6_bitCount_0f7a4_33 rfl (by decide) rfl ?_
  refine A_iload_n dJ6_bitCount_0f7a4_34 rfl rfl ?_
  refine A_iload_n dJ6_bitCount_0f7a4_35 rfl rfl ?_
  refine A_bipush (v := 8) dJ6_bitCount_0f7a4_36 (by decide) ?_
  refine A_iushr dJ6_bitCount_0f7a4_38 ?_
  refine A_iadd dJ6_bitCount_0f7a4_39 ?_
  refine A_istore_n (lo2 := [some (.int ((((((x - ((Int32.toUInt32 x >>> (Int32.toUInt32 1 &&& Int32.toUInt32 31)).toInt32 &&& 1431655765)) &&& 858993459) + ((Int32.toUInt32 (x - ((Int32.toUInt32 x >>> (Int32.toUInt32 1 &&& Int32.toUInt32 31)).toInt32 &&& 1431655765)) >>> (Int32.toUInt32 2 &&& Int32.toUInt32 31)).toInt32 &&& 858993459)) + (Int32.toUInt32 (((x - ((Int32.toUInt32 x >>> (Int32.toUInt32 1 &&& Int32.toUInt32 31)).toInt32 &&& 1431655765)) &&& 858993459) + ((Int32.toUInt32 (x - ((Int32.toUInt32 x >>> (Int32.toUInt32 1 &&& Int32.toUInt32 31)).toInt32 &&& 1431655765)) >>> (Int32.toUInt32 2 &&& Int32.toUInt32 31)).toInt32 &&& 858993459)) >>> (Int32.toUInt32 4 &&& Int32.toUInt32 31)).toInt32) &&& 252645135) + (Int32.toUInt32 (((((x - ((Int32.toUInt32 x >>> (Int32.toUInt32 1 &&& Int32.toUInt32 31)).toInt32 &&& 1431655765)) &&& 858993459) + ((Int32.toUInt32 (x - ((Int32.toUInt32 x >>> (Int32.toUInt32 1 &&& Int32.toUInt32 31)).toInt32 &&& 1431655765)) >>> (Int32.toUInt32 2 &&& Int32.toUInt32 31)).toInt32 &&& 858993459)) + (Int32.toUInt32 (((x - ((Int32.toUInt32 x >>> (Int32.toUInt32 1 &&& Int32.toUInt32 31)).toInt32 &&& 1431655765)) &&& 858993459) + ((Int32.toUInt32 (x - ((Int32.toUInt32 x >>> (Int32.toUInt32 1 &&& Int32.toUInt32 31)).toInt32 &&& 1431655765)) >>> (Int32.toUInt32 2 &&& Int32.toUInt32 31)).toInt32 &&& 858993459)) >>> (Int32.toUInt32 4 &&& Int32.toUInt32 31)).toInt32) &&& 252645135) >>> (Int32.toUInt32 8 &&& Int32.toUInt32 31)).toInt32))]) dJ6_bitCount_0f7a4_40 rfl (by decide) rfl ?_
  refine A_iload_n dJ6_bitCount_0f7a4_41 rfl rfl ?_
  refine A_iload_n dJ6_bitCount_0f7a4_42 rfl rfl ?_
  refine A_bipush (v := 16) dJ6_bitCount_0f7a4_43 (by decide) ?_
  refine A_iushr dJ6_bitCount_0f7a4_45 ?_
  refine A_iadd dJ6_bitCount_0f7a4_46 ?_
  refine A_istore_n (lo2 := [some (.int (((((((x - ((Int32.toUInt32 x >>> (Int32.toUInt32 1 &&& Int32.toUInt32 31)).toInt32 &&& 1431655765)) &&& 858993459) + ((Int32.toUInt32 (x - ((Int32.toUInt32 x >>> (Int32.toUInt32 1 &&& Int32.toUInt32 31)).toInt32 &&& 1431655765)) >>> (Int32.toUInt32 2 &&& Int32.toUInt32 31)).toInt32 &&& 858993459)) + (Int32.toUInt32 (((x - ((Int32.toUInt32 x >>> (Int32.toUInt32 1 &&& Int32.toUInt32 31)).toInt32 &&& 1431655765)) &&& 858993459) + ((Int32.toUInt32 (x - ((Int32.toUInt32 x >>> (Int32.toUInt32 1 &&& Int32.toUInt32 31)).toInt32 &&& 1431655765)) >>> (Int32.toUInt32 2 &&& Int32.toUInt32 31)).toInt32 &&& 858993459)) >>> (Int32.toUInt32 4 &&& Int32.toUInt32 31)).toInt32) &&& 252645135) + (Int32.toUInt32 (((((x - ((Int32.toUInt32 x >>> (Int32.toUInt32 1 &&& Int32.toUInt32 31)).toInt32 &&& 1431655765)) &&& 858993459) + ((Int32.toUInt32 (x - ((Int32.toUInt32 x >>> (Int32.toUInt32 1 &&& Int32.toUInt32 31)).toInt32 &&& 1431655765)) >>> (Int32.toUInt32 2 &&& Int32.toUInt32 31)).toInt32 &&& 858993459)) + (Int32.toUInt32 (((x - ((Int32.toUInt32 x >>> (Int32.toUInt32 1 &&& Int32.toUInt32 31)).toInt32 &&& 1431655765)) &&& 858993459) + ((Int32.toUInt32 (x - ((Int32.toUInt32 x >>> (Int32.toUInt32 1 &&& Int32.toUInt32 31)).toInt32 &&& 1431655765)) >>> (Int32.toUInt32 2 &&& Int32.toUInt32 31)).toInt32 &&& 858993459)) >>> (Int32.toUInt32 4 &&& Int32.toUInt32 31)).toInt32) &&& 252645135) >>> (Int32.toUInt32 8 &&& Int32.toUInt32 31)).toInt32) + (Int32.toUInt32 ((((((x - ((Int32.toUInt32 x >>> (Int32.toUInt32 1 &&& Int32.toUInt32 31)).toInt32 &&& 1431655765)) &&& 858993459) + ((Int32.toUInt32 (x - ((Int32.toUInt32 x >>> (Int32.toUInt32 1 &&& Int32.toUInt32 31)).toInt32 &&& 1431655765)) >>> (Int32.toUInt32 2 &&& Int32.toUInt32 31)).toInt32 &&& 858993459)) + (Int32.toUInt32 (((x - ((Int32.toUInt32 x >>> (Int32.toUInt32 1 &&& Int32.toUInt32 31)).toInt32 &&& 1431655765)) &&& 858993459) + ((Int32.toUInt32 (x - ((Int32.toUInt32 x >>> (Int32.toUInt32 1 &&& Int32.toUInt32 31)).toInt32 &&& 1431655765)) >>> (Int32.toUInt32 2 &&& Int32.toUInt32 31)).toInt32 &&& 858993459)) >>> (Int32.toUInt32 4 &&& Int32.toUInt32 31)).toInt32) &&& 252645135) + (Int32.toUInt32 (((((x - ((Int32.toUInt32 x >>> (Int32.toUInt32 1 &&& Int32.toUInt32 31)).toInt32 &&& 1431655765)) &&& 858993459) + ((Int32.toUInt32 (x - ((Int32.toUInt32 x >>> (Int32.toUInt32 1 &&& Int32.toUInt32 31)).toInt32 &&& 1431655765)) >>> (Int32.toUInt32 2 &&& Int32.toUInt32 31)).toInt32 &&& 858993459)) + (Int32.toUInt32 (((x - ((Int32.toUInt32 x >>> (Int32.toUInt32 1 &&& Int32.toUInt32 31)).toInt32 &&& 1431655765)) &&& 858993459) + ((Int32.toUInt32 (x - ((Int32.toUInt32 x >>> (Int32.toUInt32 1 &&& Int32.toUInt32 31)).toInt32 &&& 1431655765)) >>> (Int32.toUInt32 2 &&& Int32.toUInt32 31)).toInt32 &&& 858993459)) >>> (Int32.toUInt32 4 &&& Int32.toUInt32 31)).toInt32) &&& 252645135) >>> (Int32.toUInt32 8 &&& Int32.toUInt32 31)).toInt32) >>> (Int32.toUInt32 16 &&& Int32.toUInt32 31)).toInt32))]) dJ6_bitCount_0f7a4_47 rfl (by decide) rfl ?_
  refine A_iload_n dJ6_bitCount_0f7a4_48 rfl rfl ?_
  refine A_bipush (v := 63) dJ6_bitCount_0f7a4_49 (by decide) ?_
  refine A_iand dJ6_bitCount_0f7a4_51 ?_
  refine A_iret dJ6_bitCount_0f7a4_52 rfl (az_pi hP ?_ (rfl))
  rfl
set_option maxHeartbeats 600000 in
set_option maxRecDepth 100000 in
theorem c_X4_fit (l : Launch) (G : az_Gh) (d : Nat) (sh : List az_Sh) (sg : Nat → Nat → Int32) (la : Nat → Nat → Int64) (o : Nat) (v : Int64) (hS : az_at sh o (lyS o)) : FM l G (d) mX4_fit [.ref o, .long v] (sh, sg, la) (some (.long (zfit (sg o 1) v))) (sh, sg, la) := by
  refine az_fm knX4_fit (Nat.le_of_ble_eq_true rfl) rfl (fun Post hP => ?_)
  show AW l G mX4_fit (d) (az_F G Post) 0 0 0 [some (.ref o), some (.long v), none] [] (sh, sg, la)
  refine A_aload_n dX4_fit_0 rfl rfl ?_
  refine B_getI dX4_fit_1 flX4_15 (hS 0 _ rfl) rfl ?_
  rcases az_sw04 (sg o 1) with hw | hw | hw | hw | hw | hw
  · skip
    refine A_tableIn (off := 36) (tgt := 40) dX4_fit_4 (by rw [hw]; decide) (by rw [hw]; decide) (by rw [hw]; rfl) rfl ?_
    refine A_lload_n dX4_fit_40 rfl rfl ?_
    refine A_l2i dX4_fit_41 ?_
    refine A_i2b dX4_fit_42 ?_
    refine A_i2l dX4_fit_43 ?_
    refine A_lret dX4_fit_44 rfl (az_pl hP ?_ (rfl))
    (rw [hw, zfit_0])
  · skip
    refine A_tableIn (off := 41) (tgt := 45) dX4_fit_4 (by rw [hw]; decide) (by rw [hw]; decide) (by rw [hw]; rfl) rfl ?_
    refine A_lload_n dX4_fit_45 rfl rfl ?_
    refine A_l2i dX4_fit_46 ?_
    refine A_i2s dX4_fit_47 ?_
    refine A_i2l dX4_fit_48 ?_
    refine A_lret dX4_fit_49 rfl (az_pl hP ?_ (rfl))
    (rw [hw, zfit_1])
  · skip
    refine A_tableIn (off := 46) (tgt := 50) dX4_fit_4 (by rw [hw]; decide) (by rw [hw]; decide) (by rw [hw]; rfl) rfl ?_
    refine A_lload_n dX4_fit_50 rfl rfl ?_
    refine A_l2i dX4_fit_51 ?_
    refine A_i2l dX4_fit_52 ?_
    refine A_lret dX4_fit_53 rfl (az_pl hP ?_ (rfl))
    (rw [hw, zfit_2])
  · skip
    refine A_tableIn (off := 62) (tgt := 66) dX4_fit_4 (by rw [hw]; decide) (by rw [hw]; decide) (by rw [hw]; rfl) rfl ?_
    refine A_lload_n dX4_fit_66 rfl rfl ?_
    refine A_lret dX4_fit_67 rfl (az_pl hP ?_ (rfl))
    (rw [hw, zfit_3])
  · skip
    refine A_tableIn (off := 50) (tgt := 54) dX4_fit_4 (by rw [hw]; decide) (by rw [hw]; decide) (by rw [hw]; rfl) rfl ?_
    refine A_lload_n dX4_fit_54 rfl rfl ?_
    refine A_lconst (v := 0) dX4_fit_55 (by decide) ?_
    refine A_lcmp dX4_fit_56 ?_
    refine A_if_eq (tgt := 64) dX4_fit_57 rfl (fun h_1 => ?_) (fun h_1 => ?_)
    · skip
      refine A_lconst (v := 0) dX4_fit_64 (by decide) ?_
      refine A_lret dX4_fit_65 rfl (az_pl hP ?_ (rfl))
      (rw [hw, zfit_4, if_pos (lcmp_0.mp h_1)])
    · skip
      refine A_lconst (v := 1) dX4_fit_60 (by decide) ?_
      refine A_goto (tgt := 65) dX4_fit_61 rfl ?_
      refine A_lret dX4_fit_65 rfl (az_pl hP ?_ (rfl))
      (rw [hw, zfit_4, if_neg (fun q => h_1 (lcmp_0.mpr q))])
  · skip
    refine A_tableOut (tgt := 66) dX4_fit_4 hw rfl ?_
    refine A_lload_n dX4_fit_66 rfl rfl ?_
    refine A_lret dX4_fit_67 rfl (az_pl hP ?_ (rfl))
    (unfold zfit; rw [if_neg (az_ne hw 0 (by decide) (by decide)), if_neg (az_ne hw 1 (by decide) (by decide)), if_neg (az_ne hw 2 (by decide) (by decide)), if_neg (az_ne hw 4 (by decide) (by decide))])
set_option maxHeartbeats 600000 in
set_option maxRecDepth 100000 in
theorem c_X4_hasStretch (l : Launch) (G : az_Gh) (d : Nat) (sh : List az_Sh) (sg : Nat → Nat → Int32) (la : Nat → Nat → Int64) (o : Nat) (i n : Int32) (hS : az_at sh o (lyS o)) : FM l G (d) mX4_hasStretch [.ref o, .int i, .int n] (sh, sg, la) (some (.int (b2i (0 ≤ n ∧ n ≤ sg o 2 ∧ 0 ≤ i ∧ i ≤ sg o 2 - n)))) (sh, sg, la) := by
  refine az_fm knX4_hasStretch (Nat.le_of_ble_eq_true rfl) rfl (fun Post hP => ?_)
  show AW l G mX4_hasStretch (d) (az_F G Post) 0 0 0 [some (.ref o), some (.int i), some (.int n)] [] (sh, sg, la)
  refine A_iload_n dX4_hasStretch_0 rfl rfl ?_
  refine A_if_lt (tgt := 30) dX4_hasStretch_1 rfl (fun h_1 => ?_) (fun h_1 => ?_)
  · skip
    refine A_iconst (v := 0) dX4_hasStretch_30 (by decide) ?_
    refine A_zret dX4_hasStretch_31 rfl (rfl) (az_pi hP ?_ (rfl))
    exact b2i_f (fun q => absurd h_1 (Int32.not_lt.mpr q.1))
  · skip
    refine A_iload_n dX4_hasStretch_4 rfl rfl ?_
    refine A_aload_n dX4_hasStretch_5 rfl rfl ?_
    refine B_getI dX4_hasStretch_6 flX4_19 (hS 0 _ rfl) rfl ?_
    refine A_icmp_gt (tgt := 30) dX4_hasStretch_9 rfl (fun h_2 => ?_) (fun h_2 => ?_)
    · skip
      refine A_iconst (v := 0) dX4_hasStretch_30 (by decide) ?_
      refine A_zret dX4_hasStretch_31 rfl (rfl) (az_pi hP ?_ (rfl))
      exact b2i_f (fun q => absurd h_2 (Int32.not_lt.mpr q.2.1))
    · skip
      refine A_iload_n dX4_hasStretch_12 rfl rfl ?_
      refine A_if_lt (tgt := 30) dX4_hasStretch_13 rfl (fun h_3 => ?_) (fun h_3 => ?_)
      · skip
        refine A_iconst (v := 0) dX4_hasStretch_30 (by decide) ?_
        refine A_zret dX4_hasStretch_31 rfl (rfl) (az_pi hP ?_ (rfl))
        exact b2i_f (fun q => absurd h_3 (Int32.not_lt.mpr q.2.2.1))
      · skip
        refine A_iload_n dX4_hasStretch_16 rfl rfl ?_
        refine A_aload_n dX4_hasStretch_17 rfl rfl ?_
        refine B_getI dX4_hasStretch_18 flX4_19 (hS 0 _ rfl) rfl ?_
        refine A_iload_n dX4_hasStretch_21 rfl rfl ?_
        refine A_isub dX4_hasStretch_22 ?_
        refine A_icmp_gt (tgt := 30) dX4_hasStretch_23 rfl (fun h_4 => ?_) (fun h_4 => ?_)
        · skip
          refine A_iconst (v := 0) dX4_hasStretch_30 (by decide) ?_
          refine A_zret dX4_hasStretch_31 rfl (rfl) (az_pi hP ?_ (rfl))
          exact b2i_f (fun q => absurd h_4 (Int32.not_lt.mpr q.2.2.2))
        · skip
          refine A_iconst (v := 1) dX4_hasStretch_26 (by decide) ?_
          refine A_goto (tgt := 31) dX4_hasStretch_27 rfl ?_
          refine A_zret dX4_hasStretch_31 rfl (rfl) (az_pi hP ?_ (rfl))
          exact b2i_t ⟨Int32.not_lt.mp h_1, Int32.not_lt.mp h_2, Int32.not_lt.mp h_3, Int32.not_lt.mp h_4⟩
set_option maxHeartbeats 600000 in
set_option maxRecDepth 100000 in
theorem c_X4_at (l : Launch) (G : az_Gh) (d : Nat) (sh : List az_Sh) (sg : Nat → Nat → Int32) (la : Nat → Nat → Int64) (o : Nat) (i : Int32) (hS : az_at sh o (lyS o)) (z : Nat) (hz : sg o 2 = nI z) (hz4 : z ≤ 40) : FM l G (d + 1) mX4_at [.ref o, .int i] (sh, sg, la) (some (.long (zat sg la o i))) (sh, sg, la) := by
  refine az_fm knX4_at (Nat.le_of_ble_eq_true rfl) rfl (fun Post hP => ?_)
  show AW l G mX4_at (d + 1) (az_F G Post) 0 0 0 [some (.ref o), some (.int i)] [] (sh, sg, la)
  refine A_aload_n dX4_at_0 rfl rfl ?_
  refine A_iload_n dX4_at_1 rfl rfl ?_
  refine A_callV (n := 0) dX4_at_2 kvX4_hasPlace mlX4_47 rfl (az_rc_obj clX4 (hS 0 _ rfl)) (c_X4_hasPlace l G d sh sg la o i hS) (by omega) (Nat.le_refl _) (Nat.le_refl _) rfl (Nat.le_of_ble_eq_true rfl) (fun r S1 hp => ?_)
  obtain ⟨rfl, rfl⟩ := hp
  show AW l G mX4_at (d + 1) (az_F G Post) 0 0 5 [some (.ref o), some (.int i)] [.int (b2i (0 ≤ i ∧ i < sg o 2))] (sh, sg, la)
  refine A_if_eq (tgt := 17) dX4_at_5 rfl (fun h_1 => ?_) (fun h_1 => ?_)
  · skip
    have h_1' := b2i_0.mp h_1
    refine A_lconst (v := 0) dX4_at_17 (by decide) ?_
    refine A_lret dX4_at_18 rfl (az_pl hP ?_ (rfl))
    (unfold zat; rw [if_neg h_1'])
  · skip
    have h_1' := b2i_n.mp h_1
    refine A_aload_n dX4_at_8 rfl rfl ?_
    refine B_getR (r := (o + 1)) dX4_at_9 flX4_9 (hS 0 _ rfl) rfl ?_
    refine A_iload_n dX4_at_12 rfl rfl ?_
    refine B_lald (i := i.toNatClampNeg) dX4_at_13 (hS 1 _ rfl) (by decide) (nI_nat h_1'.1) (Nat.lt_of_lt_of_le (nI_nat_lt h_1'.1 (by rw [← hz]; exact h_1'.2) (by omega)) hz4) ?_
    refine A_goto (tgt := 18) dX4_at_14 rfl ?_
    refine A_lret dX4_at_18 rfl (az_pl hP ?_ (rfl))
    (unfold zat; rw [if_pos h_1'])
set_option maxHeartbeats 600000 in
set_option maxRecDepth 100000 in
theorem c_X4_put (l : Launch) (G : az_Gh) (d : Nat) (sh : List az_Sh) (sg : Nat → Nat → Int32) (la : Nat → Nat → Int64) (o : Nat) (i : Int32) (v : Int64) (hS : az_at sh o (lyS o)) (z : Nat) (hz : sg o 2 = nI z) (hz4 : z ≤ 40) (h0 : 0 ≤ i) (hi : i < sg o 2) : FM l G (d + 1) mX4_put [.ref o, .int i, .long v] (sh, sg, la) (none) (sh, sg, az_wL la (o + 1) i.toNatClampNeg (zfit (sg o 1) v)) := by
  refine az_fm knX4_put (Nat.le_of_ble_eq_true rfl) rfl (fun Post hP => ?_)
  show AW l G mX4_put (d + 1) (az_F G Post) 0 0 0 [some (.ref o), some (.int i), some (.long v), none] [] (sh, sg, la)
  refine A_aload_n dX4_put_0 rfl rfl ?_
  refine A_iload_n dX4_put_1 rfl rfl ?_
  refine A_callV (n := 0) dX4_put_2 kvX4_hasPlace mlX4_47 rfl (az_rc_obj clX4 (hS 0 _ rfl)) (c_X4_hasPlace l G d sh sg la o i hS) (by omega) (Nat.le_refl _) (Nat.le_refl _) rfl (Nat.le_of_ble_eq_true rfl) (fun r S1 hp => ?_)
  obtain ⟨rfl, rfl⟩ := hp
  show AW l G mX4_put (d + 1) (az_F G Post) 0 0 5 [some (.ref o), some (.int i), some (.long v), none] [.int (b2i (0 ≤ i ∧ i < sg o 2))] (sh, sg, la)
  refine A_if_eq (tgt := 19) dX4_put_5 rfl (fun h_1 => ?_) (fun h_1 => ?_)
  · skip
    have h_1' := b2i_0.mp h_1
    exact absurd ⟨h0, hi⟩ (b2i_0.mp h_1)
  · skip
    have h_1' := b2i_n.mp h_1
    refine A_aload_n dX4_put_8 rfl rfl ?_
    refine B_getR (r := (o + 1)) dX4_put_9 flX4_9 (hS 0 _ rfl) rfl ?_
    refine A_iload_n dX4_put_12 rfl rfl ?_
    refine A_aload_n dX4_put_13 rfl rfl ?_
    refine A_lload_n dX4_put_14 rfl rfl ?_
    refine A_callV (n := 0) dX4_put_15 kvX4_fit mlX4_51 rfl (az_rc_obj clX4 (hS 0 _ rfl)) (c_X4_fit l G d sh sg la o v hS) (by omega) (Nat.le_refl _) (Nat.le_refl _) rfl (Nat.le_of_ble_eq_true rfl) (fun r S1 hp => ?_)
    obtain ⟨rfl, rfl⟩ := hp
    show AW l G mX4_put (d + 1) (az_F G Post) 0 0 18 [some (.ref o), some (.int i), some (.long v), none] [.long (zfit (sg o 1) v), .int i, .ref (o + 1)] (sh, sg, la)
    refine B_last (i := i.toNatClampNeg) dX4_put_18 (hS 1 _ rfl) (by decide) (nI_nat h_1'.1) (Nat.lt_of_lt_of_le (nI_nat_lt h_1'.1 (by rw [← hz]; exact h_1'.2) (by omega)) hz4) ?_
    exact A_vret dX4_put_19 rfl (az_pv hP (rfl))
set_option maxHeartbeats 600000 in
set_option maxRecDepth 100000 in
theorem c_X4_holdRow (l : Launch) (G : az_Gh) (d : Nat) (sh : List az_Sh) (sg : Nat → Nat → Int32) (la : Nat → Nat → Int64) (o : Nat) (t n : Int32) (hS : az_at sh o (lyS o)) : FM l G (d + 1) mX4_holdRow [.ref o, .int t, .int n] (sh, sg, la) (none) (sh, az_w (az_w (az_w sg o 1 t) o 2 (mx0 (mnI 40 n))) o 3 (-1), va_up la (o + 1) (zfill (la (o + 1)) 40 0)) := by
  refine az_fm knX4_holdRow (Nat.le_of_ble_eq_true rfl) rfl (fun Post hP => ?_)
  show AW l G mX4_holdRow (d + 1) (az_F G Post) 0 0 0 [some (.ref o), some (.int t), some (.int n)] [] (sh, sg, la)
  refine A_aload_n dX4_holdRow_0 rfl rfl ?_
  refine B_getR (r := (o + 1)) dX4_holdRow_1 flX4_9 (hS 0 _ rfl) rfl ?_
  refine A_lconst (v := 0) dX4_holdRow_4 (by decide) ?_
  refine A_callS (n := 0) dX4_holdRow_5 ksJ7_fill_d0a16 mlX4_32 rfl (c_J7_fill_d0a16 l G d sh sg la (o + 1) 40 0 (hS 1 _ rfl) (by omega)) (by omega) (Nat.le_refl _) (Nat.le_refl _) rfl (Nat.le_of_ble_eq_true rfl) (fun r S1 hp => ?_)
  obtain ⟨rfl, rfl⟩ := hp
  show AW l G mX4_holdRow (d + 1) (az_F G Post) 0 0 8 [some (.ref o), some (.int t), some (.int n)] [] (sh, sg, (va_up la (o + 1) (zfill (la (o + 1)) 40 0)))
  refine A_aload_n dX4_holdRow_8 rfl rfl ?_
  refine A_iload_n dX4_holdRow_9 rfl rfl ?_
  refine B_putI dX4_holdRow_10 fwX4_15 (hS 0 _ rfl) rfl ?_
  refine A_aload_n dX4_holdRow_13 rfl rfl ?_
  refine A_iconst (v := 0) dX4_holdRow_14 (by decide) ?_
  refine A_bipush (v := 40) dX4_holdRow_15 (by decide) ?_
  refine A_iload_n dX4_holdRow_17 rfl rfl ?_
  refine A_mnI dX4_holdRow_18 mlX4_38 (by omega) (Nat.le_of_ble_eq_true rfl) ?_
  refine A_mx0 dX4_holdRow_21 mlX4_44 (by omega) (Nat.le_of_ble_eq_true rfl) ?_
  refine B_putI dX4_holdRow_24 fwX4_19 (hS 0 _ rfl) rfl ?_
  refine A_aload_n dX4_holdRow_27 rfl rfl ?_
  refine A_iconst (v := (-1)) dX4_holdRow_28 (by decide) ?_
  refine B_putI dX4_holdRow_29 fwX4_22 (hS 0 _ rfl) rfl ?_
  exact A_vret dX4_holdRow_32 rfl (az_pv hP (rfl))
