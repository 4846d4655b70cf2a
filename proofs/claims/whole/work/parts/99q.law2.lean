set_option maxHeartbeats 4000000 in
set_option maxRecDepth 100000 in
theorem law_sw (l : Launch) (G : az_Gh) (F : az_Fn) (bc bs i : Nat) (sh : List az_Sh) (sg : Nat → Nat → Int32) (la : Nat → Nat → Int64) (σ : SGM) (kp tr : Option Nat) (hL : (az_ex G 1003).1 < 2 ^ 31) (hi : i + 6 ≤ (az_ex G 1003).1) (hI : LI sh sg la σ kp tr bc bs) (back : ∀ (sh : List az_Sh) (sg : Nat → Nat → Int32) (la : Nat → Nat → Int64) (σ : SGM) (kp tr : Option Nat) (bc bs : Nat), LI sh sg la σ kp tr bc bs → AW l G mL_law 2048 F bc bs 1791 [some (.ref 1003), some (.ref 0), some (.ref 60), some (.int (nI i))] [] (sh, sg, la)) {k : Nat} (hk : k < 64) : AW l G mL_law 2048 F bc bs 33 [some (.ref 1003), some (.ref 0), some (.ref 60), some (.int (nI i))] [.int (nI k)] (sh, sg, la) := by
  by_cases h0 : k = 0
  · subst h0
    exact A_tableIn (off := 239) (tgt := 272) dL_law_33 (by decide) (by decide) (by decide) rfl (lc_0 l G F bc bs i sh sg la σ kp tr hL hi hI back)
  by_cases h1 : k = 1
  · subst h1
    exact A_tableIn (off := 282) (tgt := 315) dL_law_33 (by decide) (by decide) (by decide) rfl (lc_1 l G F bc bs i sh sg la σ kp tr hL hi hI back)
  by_cases h2 : k = 2
  · subst h2
    exact A_tableIn (off := 355) (tgt := 388) dL_law_33 (by decide) (by decide) (by decide) rfl (lc_2 l G F bc bs i sh sg la σ kp tr hL hi hI back)
  by_cases h3 : k = 3
  · subst h3
    exact A_tableIn (off := 418) (tgt := 451) dL_law_33 (by decide) (by decide) (by decide) rfl (lc_3 l G F bc bs i sh sg la σ kp tr hL hi hI back)
  by_cases h4 : k = 4
  · subst h4
    exact A_tableIn (off := 452) (tgt := 485) dL_law_33 (by decide) (by decide) (by decide) rfl (lc_4 l G F bc bs i sh sg la σ kp tr hL hi hI back)
  by_cases h5 : k = 5
  · subst h5
    exact A_tableIn (off := 475) (tgt := 508) dL_law_33 (by decide) (by decide) (by decide) rfl (lc_5 l G F bc bs i sh sg la σ kp tr hL hi hI back)
  by_cases h6 : k = 6
  · subst h6
    exact A_tableIn (off := 508) (tgt := 541) dL_law_33 (by decide) (by decide) (by decide) rfl (lc_6 l G F bc bs i sh sg la σ kp tr hL hi hI back)
  by_cases h7 : k = 7
  · subst h7
    exact A_tableIn (off := 541) (tgt := 574) dL_law_33 (by decide) (by decide) (by decide) rfl (lc_7 l G F bc bs i sh sg la σ kp tr hL hi hI back)
  by_cases h8 : k = 8
  · subst h8
    exact A_tableIn (off := 584) (tgt := 617) dL_law_33 (by decide) (by decide) (by decide) rfl (lc_8 l G F bc bs i sh sg la σ kp tr hL hi hI back)
  by_cases h9 : k = 9
  · subst h9
    exact A_tableIn (off := 627) (tgt := 660) dL_law_33 (by decide) (by decide) (by decide) rfl (lc_9 l G F bc bs i sh sg la σ kp tr hL hi hI back)
  by_cases h10 : k = 10
  · subst h10
    exact A_tableIn (off := 660) (tgt := 693) dL_law_33 (by decide) (by decide) (by decide) rfl (lc_10 l G F bc bs i sh sg la σ kp tr hL hi hI back)
  by_cases h11 : k = 11
  · subst h11
    exact A_tableIn (off := 673) (tgt := 706) dL_law_33 (by decide) (by decide) (by decide) rfl (lc_11 l G F bc bs i sh sg la σ kp tr hL hi hI back)
  by_cases h12 : k = 12
  · subst h12
    exact A_tableIn (off := 696) (tgt := 729) dL_law_33 (by decide) (by decide) (by decide) rfl (lc_12 l G F bc bs i sh sg la σ kp tr hL hi hI back)
  by_cases h13 : k = 13
  · subst h13
    exact A_tableIn (off := 709) (tgt := 742) dL_law_33 (by decide) (by decide) (by decide) rfl (lc_13 l G F bc bs i sh sg la σ kp tr hL hi hI back)
  by_cases h14 : k = 14
  · subst h14
    exact A_tableIn (off := 722) (tgt := 755) dL_law_33 (by decide) (by decide) (by decide) rfl (lc_14 l G F bc bs i sh sg la σ kp tr hL hi hI back)
  by_cases h15 : k = 15
  · subst h15
    exact A_tableIn (off := 755) (tgt := 788) dL_law_33 (by decide) (by decide) (by decide) rfl (lc_15 l G F bc bs i sh sg la σ kp tr hL hi hI back)
  by_cases h16 : k = 16
  · subst h16
    exact A_tableIn (off := 778) (tgt := 811) dL_law_33 (by decide) (by decide) (by decide) rfl (lc_16 l G F bc bs i sh sg la σ kp tr hL hi hI back)
  by_cases h17 : k = 17
  · subst h17
    exact A_tableIn (off := 791) (tgt := 824) dL_law_33 (by decide) (by decide) (by decide) rfl (lc_17 l G F bc bs i sh sg la σ kp tr hL hi hI back)
  by_cases h18 : k = 18
  · subst h18
    exact A_tableIn (off := 804) (tgt := 837) dL_law_33 (by decide) (by decide) (by decide) rfl (lc_18 l G F bc bs i sh sg la σ kp tr hL hi hI back)
  by_cases h19 : k = 19
  · subst h19
    exact A_tableIn (off := 817) (tgt := 850) dL_law_33 (by decide) (by decide) (by decide) rfl (lc_19 l G F bc bs i sh sg la σ kp tr hL hi hI back)
  by_cases h20 : k = 20
  · subst h20
    exact A_tableIn (off := 840) (tgt := 873) dL_law_33 (by decide) (by decide) (by decide) rfl (lc_20 l G F bc bs i sh sg la σ kp tr hL hi hI back)
  by_cases h21 : k = 21
  · subst h21
    exact A_tableIn (off := 863) (tgt := 896) dL_law_33 (by decide) (by decide) (by decide) rfl (lc_21 l G F bc bs i sh sg la σ kp tr hL hi hI back)
  by_cases h22 : k = 22
  · subst h22
    exact A_tableIn (off := 896) (tgt := 929) dL_law_33 (by decide) (by decide) (by decide) rfl (lc_22 l G F bc bs i sh sg la σ kp tr hL hi hI back)
  by_cases h23 : k = 23
  · subst h23
    exact A_tableIn (off := 929) (tgt := 962) dL_law_33 (by decide) (by decide) (by decide) rfl (lc_23 l G F bc bs i sh sg la σ kp tr hL hi hI back)
  by_cases h24 : k = 24
  · subst h24
    exact A_tableIn (off := 962) (tgt := 995) dL_law_33 (by decide) (by decide) (by decide) rfl (lc_24 l G F bc bs i sh sg la σ kp tr hL hi hI back)
  by_cases h25 : k = 25
  · subst h25
    exact A_tableIn (off := 985) (tgt := 1018) dL_law_33 (by decide) (by decide) (by decide) rfl (lc_25 l G F bc bs i sh sg la σ kp tr hL hi hI back)
  by_cases h26 : k = 26
  · subst h26
    exact A_tableIn (off := 1008) (tgt := 1041) dL_law_33 (by decide) (by decide) (by decide) rfl (lc_26 l G F bc bs i sh sg la σ kp tr hL hi hI back)
  by_cases h27 : k = 27
  · subst h27
    exact A_tableIn (off := 1051) (tgt := 1084) dL_law_33 (by decide) (by decide) (by decide) rfl (lc_27 l G F bc bs i sh sg la σ kp tr hL hi hI back)
  by_cases h28 : k = 28
  · subst h28
    exact A_tableIn (off := 1094) (tgt := 1127) dL_law_33 (by decide) (by decide) (by decide) rfl (lc_28 l G F bc bs i sh sg la σ kp tr hL hi hI back)
  by_cases h29 : k = 29
  · subst h29
    exact A_tableIn (off := 1127) (tgt := 1160) dL_law_33 (by decide) (by decide) (by decide) rfl (lc_29 l G F bc bs i sh sg la σ kp tr hL hi hI back)
  by_cases h30 : k = 30
  · subst h30
    exact A_tableIn (off := 1160) (tgt := 1193) dL_law_33 (by decide) (by decide) (by decide) rfl (lc_30 l G F bc bs i sh sg la σ kp tr hL hi hI back)
  by_cases h31 : k = 31
  · subst h31
    exact A_tableIn (off := 1193) (tgt := 1226) dL_law_33 (by decide) (by decide) (by decide) rfl (lc_31 l G F bc bs i sh sg la σ kp tr hL hi hI back)
  by_cases h32 : k = 32
  · subst h32
    exact A_tableIn (off := 1226) (tgt := 1259) dL_law_33 (by decide) (by decide) (by decide) rfl (lc_32 l G F bc bs i sh sg la σ kp tr hL hi hI back)
  by_cases h33 : k = 33
  · subst h33
    exact A_tableIn (off := 1259) (tgt := 1292) dL_law_33 (by decide) (by decide) (by decide) rfl (lc_33 l G F bc bs i sh sg la σ kp tr hL hi hI back)
  by_cases h34 : k = 34
  · subst h34
    exact A_tableIn (off := 1292) (tgt := 1325) dL_law_33 (by decide) (by decide) (by decide) rfl (lc_34 l G F bc bs i sh sg la σ kp tr hL hi hI back)
  by_cases h35 : k = 35
  · subst h35
    exact A_tableIn (off := 1315) (tgt := 1348) dL_law_33 (by decide) (by decide) (by decide) rfl (lc_35 l G F bc bs i sh sg la σ kp tr hL hi hI back)
  by_cases h36 : k = 36
  · subst h36
    exact A_tableIn (off := 1348) (tgt := 1381) dL_law_33 (by decide) (by decide) (by decide) rfl (lc_36 l G F bc bs i sh sg la σ kp tr hL hi hI back)
  by_cases h37 : k = 37
  · subst h37
    exact A_tableIn (off := 1361) (tgt := 1394) dL_law_33 (by decide) (by decide) (by decide) rfl (lc_37 l G F bc bs i sh sg la σ kp tr hL hi hI back)
  by_cases h38 : k = 38
  · subst h38
    exact A_tableIn (off := 1384) (tgt := 1417) dL_law_33 (by decide) (by decide) (by decide) rfl (lc_38 l G F bc bs i sh sg la σ kp tr hL hi hI back)
  by_cases h39 : k = 39
  · subst h39
    exact A_tableIn (off := 1407) (tgt := 1440) dL_law_33 (by decide) (by decide) (by decide) rfl (lc_39 l G F bc bs i sh sg la σ kp tr hL hi hI back)
  by_cases h40 : k = 40
  · subst h40
    exact A_tableIn (off := 1430) (tgt := 1463) dL_law_33 (by decide) (by decide) (by decide) rfl (lc_40 l G F bc bs i sh sg la σ kp tr hL hi hI back)
  by_cases h41 : k = 41
  · subst h41
    exact A_tableIn (off := 1453) (tgt := 1486) dL_law_33 (by decide) (by decide) (by decide) rfl (lc_41 l G F bc bs i sh sg la σ kp tr hL hi hI back)
  by_cases h42 : k = 42
  · subst h42
    exact A_tableIn (off := 1466) (tgt := 1499) dL_law_33 (by decide) (by decide) (by decide) rfl (lc_42 l G F bc bs i sh sg la σ kp tr hL hi hI back)
  by_cases h43 : k = 43
  · subst h43
    exact A_tableIn (off := 1479) (tgt := 1512) dL_law_33 (by decide) (by decide) (by decide) rfl (lc_43 l G F bc bs i sh sg la σ kp tr hL hi hI back)
  by_cases h44 : k = 44
  · subst h44
    exact A_tableIn (off := 1492) (tgt := 1525) dL_law_33 (by decide) (by decide) (by decide) rfl (lc_44 l G F bc bs i sh sg la σ kp tr hL hi hI back)
  by_cases h45 : k = 45
  · subst h45
    exact A_tableIn (off := 1515) (tgt := 1548) dL_law_33 (by decide) (by decide) (by decide) rfl (lc_45 l G F bc bs i sh sg la σ kp tr hL hi hI back)
  by_cases h46 : k = 46
  · subst h46
    exact A_tableIn (off := 1538) (tgt := 1571) dL_law_33 (by decide) (by decide) (by decide) rfl (lc_46 l G F bc bs i sh sg la σ kp tr hL hi hI back)
  by_cases h47 : k = 47
  · subst h47
    exact A_tableIn (off := 1561) (tgt := 1594) dL_law_33 (by decide) (by decide) (by decide) rfl (lc_47 l G F bc bs i sh sg la σ kp tr hL hi hI back)
  by_cases h48 : k = 48
  · subst h48
    exact A_tableIn (off := 1584) (tgt := 1617) dL_law_33 (by decide) (by decide) (by decide) rfl (lc_48 l G F bc bs i sh sg la σ kp tr hL hi hI back)
  by_cases h49 : k = 49
  · subst h49
    exact A_tableIn (off := 1607) (tgt := 1640) dL_law_33 (by decide) (by decide) (by decide) rfl (lc_49 l G F bc bs i sh sg la σ kp tr hL hi hI back)
  by_cases h50 : k = 50
  · subst h50
    exact A_tableIn (off := 1640) (tgt := 1673) dL_law_33 (by decide) (by decide) (by decide) rfl (lc_50 l G F bc bs i sh sg la σ kp tr hL hi hI back)
  by_cases h51 : k = 51
  · subst h51
    exact A_tableIn (off := 1663) (tgt := 1696) dL_law_33 (by decide) (by decide) (by decide) rfl (lc_51 l G F bc bs i sh sg la σ kp tr hL hi hI back)
  by_cases h52 : k = 52
  · subst h52
    exact A_tableIn (off := 1686) (tgt := 1719) dL_law_33 (by decide) (by decide) (by decide) rfl (lc_52 l G F bc bs i sh sg la σ kp tr hL hi hI back)
  by_cases h53 : k = 53
  · subst h53
    exact A_tableIn (off := 1709) (tgt := 1742) dL_law_33 (by decide) (by decide) (by decide) rfl (lc_53 l G F bc bs i sh sg la σ kp tr hL hi hI back)
  by_cases h54 : k = 54
  · subst h54
    exact A_tableIn (off := 1722) (tgt := 1755) dL_law_33 (by decide) (by decide) (by decide) rfl (lc_54 l G F bc bs i sh sg la σ kp tr hL hi hI back)
  by_cases h55 : k = 55
  · subst h55
    exact A_tableIn (off := 1735) (tgt := 1768) dL_law_33 (by decide) (by decide) (by decide) rfl (lc_55 l G F bc bs i sh sg la σ kp tr hL hi hI back)
  have h56 : 56 ≤ k := by omega
  exact A_tableOut (tgt := 1791) dL_law_33 (Or.inr (by rw [nI_toInt (by omega)]; omega)) rfl (back sh sg la σ kp tr bc bs hI)
set_option maxHeartbeats 1000000 in
set_option maxRecDepth 100000 in
theorem law_loop (l : Launch) (G : az_Gh) (F : az_Fn) (hL3 : (az_ex G 1003).1 ≤ 3072) (fin : ∀ (bc bs i : Nat) (sh : List az_Sh) (sg : Nat → Nat → Int32) (la : Nat → Nat → Int64), AW l G mL_law 2048 F bc bs 1797 [some (.ref 1003), some (.ref 0), some (.ref 60), some (.int (nI i))] [] (sh, sg, la)) : ∀ (q i : Nat) (sh : List az_Sh) (sg : Nat → Nat → Int32) (la : Nat → Nat → Int64) (σ : SGM) (kp tr : Option Nat) (bc bs : Nat), (az_ex G 1003).1 < 6 + i + 6 * q → i ≤ (az_ex G 1003).1 → LI sh sg la σ kp tr bc bs → AW l G mL_law 2048 F bc bs 18 [some (.ref 1003), some (.ref 0), some (.ref 60), some (.int (nI i))] [] (sh, sg, la) := by
  intro q
  induction q with
  | zero =>
    intro i sh sg la σ kp tr bc bs hq hi hI
    refine A_iload_n dL_law_18 rfl rfl ?_
    refine A_aload_n dL_law_19 rfl rfl ?_
    refine A_elen (k := 1003) dL_law_20 (by decide) (by decide) ?_
    refine A_bipush (v := 6) dL_law_21 (by decide) ?_
    refine A_isub dL_law_23 ?_
    refine A_icmp_gt (tgt := 1797) dL_law_24 rfl (fun _ => fin bc bs i sh sg la) (fun h => absurd ((gt6 hL3 (by omega)).mpr (by omega)) h)
  | succ q ih =>
    intro i sh sg la σ kp tr bc bs hq hi hI
    refine A_iload_n dL_law_18 rfl rfl ?_
    refine A_aload_n dL_law_19 rfl rfl ?_
    refine A_elen (k := 1003) dL_law_20 (by decide) (by decide) ?_
    refine A_bipush (v := 6) dL_law_21 (by decide) ?_
    refine A_isub dL_law_23 ?_
    refine A_icmp_gt (tgt := 1797) dL_law_24 rfl (fun _ => fin bc bs i sh sg la) (fun h => ?_)
    have h6 : i + 6 ≤ (az_ex G 1003).1 := by
      rcases Nat.lt_or_ge (az_ex G 1003).1 (i + 6) with z | z
      · exact absurd ((gt6 hL3 (by omega)).mpr z) h
      · exact z
    refine A_aload_n dL_law_27 rfl rfl ?_
    refine A_iload_n dL_law_28 rfl rfl ?_
    refine A_eald (k := 1003) (i := i) dL_law_29 (by decide) (by decide) (by omega) (by omega) rfl ?_
    refine A_bipush (v := 63) dL_law_30 (by decide) ?_
    refine A_iand dL_law_32 ?_
    obtain ⟨k, hk, ek⟩ := and63 ((az_ex G 1003).2 i)
    refine B_top ek ?_
    refine law_sw l G F bc bs i sh sg la σ kp tr (by omega) h6 hI (fun sh sg la σ kp tr bc bs hI => ?_) hk
    refine A_iinc (v := nI (i + 6)) (lo2 := [some (.ref 1003), some (.ref 0), some (.ref 60), some (.int (nI (i + 6)))]) dL_law_1791 rfl (nI_add i 6) (by decide) rfl ?_
    refine A_goto (tgt := 18) dL_law_1794 rfl ?_
    exact ih (i + 6) sh sg la σ kp tr bc bs (by omega) h6 hI
theorem LI_00 (sg : Nat → Nat → Int32) (la : Nat → Nat → Int64) : LI (lyX ++ lyM 60 none none) (sgM (sgX sg 0) 60) (az_z (az_z la 0) 60) s00 none none 599907 7299916 := by
  have hl0 : ∀ i, az_z (az_z la 0) 60 i = fun _ => 0 := fun i => by
    unfold az_z
    by_cases h : 60 ≤ i
    · rw [if_pos h]
    · rw [if_neg h, if_pos (Nat.zero_le i)]
  have hM : az_at (lyX ++ lyM 60 none none) 60 (lyM 60 none none) := by
    intro k q hk
    rw [List.getElem?_append_right (by rw [lyX_60]; omega), lyX_60, show 60 + k - 60 = k by omega]
    exact hk
  have hX : az_at (lyX ++ lyM 60 none none) 0 lyX := by
    intro k q hk
    have hl : k < lyX.length := (List.getElem?_eq_some_iff.mp hk).1
    rw [Nat.zero_add, List.getElem?_append_left hl]
    exact hk
  refine ⟨hX, ⟨hM, fun k h => (by cases h), fun k h => (by cases h), Or.inl ⟨rfl, rfl, rfl⟩⟩, KX_00 sg _ _ _ (fun i hi => sgM_lt hi) (fun i _ => hl0 i) (fun k _ => ⟨rfl, rfl⟩), RX_00 (sgX sg 0) _ _ (fun i _ _ => hl0 i) (fun k _ => ⟨rfl, rfl⟩), by decide, by decide⟩
set_option maxHeartbeats 1000000 in
set_option maxRecDepth 100000 in
theorem law_entry (l : Launch) (G : az_Gh) (F : az_Fn) (sg : Nat → Nat → Int32) (la : Nat → Nat → Int64) (hL3 : (az_ex G 1003).1 ≤ 3072) (fin : ∀ (bc bs i : Nat) (sh : List az_Sh) (sg : Nat → Nat → Int32) (la : Nat → Nat → Int64), AW l G mL_law 2048 F bc bs 1797 [some (.ref 1003), some (.ref 0), some (.ref 60), some (.int (nI i))] [] (sh, sg, la)) : AW l G mL_law 2048 F 600000 7302250 0 [some (.ref 1003), none, none, none] [] ([], sg, la) := by
  refine N_newO (n := 0) (bc2 := 599999) (bs2 := 7302240) rfl dL_law_0 clX7 ckL_7 in_RX7 ii_RX7 dfX7.symm (by decide) (by decide) (by decide) (by decide) ?_
  refine A_dup dL_law_3 rfl ?_
  refine A_callI (n := 0) (as := []) (bc2 := 599940) (bs2 := 7300985) dL_law_4 kiX7_init mlL_9 rfl (i_X7 l G 2000 [] sg la 0 rfl (by decide)) (by decide) (by decide) (by decide) rfl (Nat.le_of_ble_eq_true rfl) (fun r S1 hp => ?_)
  obtain ⟨rfl, rfl⟩ := hp
  show AW l G mL_law 2048 F 599940 7300985 7 [some (.ref 1003), none, none, none] [.ref 0] (lyX, sgX sg 0, az_z la 0)
  refine A_astore_n (lo2 := [some (.ref 1003), some (.ref 0), none, none]) dL_law_7 rfl (by decide) rfl ?_
  refine N_newO (n := 60) (bc2 := 599939) (bs2 := 7300943) lyX_60 dL_law_8 clX8 ckL_10 in_RX8 ii_RX8 dfX8.symm (by decide) (by decide) (by decide) (by decide) ?_
  refine A_dup dL_law_11 rfl ?_
  refine A_callI (n := 0) (as := []) (bc2 := 599907) (bs2 := 7299916) dL_law_12 kiX8_init mlL_12 rfl (i_X8 l G 2000 lyX (sgX sg 0) (az_z la 0) 60 lyX_60 (by decide)) (by decide) (by decide) (by decide) rfl (Nat.le_of_ble_eq_true rfl) (fun r S1 hp => ?_)
  obtain ⟨rfl, rfl⟩ := hp
  show AW l G mL_law 2048 F 599907 7299916 15 [some (.ref 1003), some (.ref 0), none, none] [.ref 60] (lyX ++ lyM 60 none none, sgM (sgX sg 0) 60, az_z (az_z la 0) 60)
  refine A_astore_n (lo2 := [some (.ref 1003), some (.ref 0), some (.ref 60), none]) dL_law_15 rfl (by decide) rfl ?_
  refine A_iconst (v := 0) dL_law_16 (by decide) ?_
  refine A_istore_n (lo2 := [some (.ref 1003), some (.ref 0), some (.ref 60), some (.int (nI 0))]) dL_law_17 rfl (by decide) rfl ?_
  exact law_loop l G F hL3 fin 513 0 _ _ _ _ _ _ _ _ (by omega) (Nat.zero_le _) (LI_00 sg la)
