set_option maxHeartbeats 1000000 in
set_option maxRecDepth 100000 in
theorem lc_42 (l : Launch) (G : az_Gh) (F : az_Fn) (bc bs i : Nat) (sh : List az_Sh) (sg : Nat → Nat → Int32) (la : Nat → Nat → Int64) (σ : SGM) (kp tr : Option Nat) (hL : (az_ex G 1003).1 < 2 ^ 31) (hi : i + 6 ≤ (az_ex G 1003).1) (hI : LI sh sg la σ kp tr bc bs) (back : ∀ (sh : List az_Sh) (sg : Nat → Nat → Int32) (la : Nat → Nat → Int64) (σ : SGM) (kp tr : Option Nat) (bc bs : Nat), LI sh sg la σ kp tr bc bs → AW l G mL_law 2048 F bc bs 1791 [some (.ref 1003), some (.ref 0), some (.ref 60), some (.int (nI i))] [] (sh, sg, la)) : AW l G mL_law 2048 F bc bs 1499 [some (.ref 1003), some (.ref 0), some (.ref 60), some (.int (nI i))] [] (sh, sg, la) := by
  obtain ⟨hX, hS, hK, hR, hb⟩ := hI
  refine A_aload_n dL_law_1499 rfl rfl ?_
  refine A_callV (n := 0) dL_law_1500 kvX7_lead mlL_190 rfl (az_rc_obj clX7 (hX 0 _ rfl)) (x_lead l G 2000 sh sg la (sg, la) σ hX hK) (by decide) (Nat.le_refl _) (Nat.le_refl _) rfl (Nat.le_of_ble_eq_true rfl) (fun r S1 hp => ?_)
  obtain ⟨rfl, sg1, la1, rfl, hK1⟩ := hp
  show AW l G mL_law 2048 F bc bs 1503 [some (.ref 1003), some (.ref 0), some (.ref 60), some (.int (nI i))] [.int (q_lead σ)] (sh, sg1, la1)
  have hR1 := hR.mv hK1
  refine A_aload_n dL_law_1503 rfl rfl ?_
  refine A_callV (n := 0) dL_law_1504 kvX8_lead mlL_193 rfl (az_rc_obj clX8 (hS.1 0 _ rfl)) (y_lead l G 2000 sh sg1 la1 (sg1, la1) σ kp tr hS.1 hR1 hK.wf) (by decide) (Nat.le_refl _) (Nat.le_refl _) rfl (Nat.le_of_ble_eq_true rfl) (fun r S1 hp => ?_)
  obtain ⟨rfl, sg2, la2, rfl, hR2⟩ := hp
  show AW l G mL_law 2048 F bc bs 1507 [some (.ref 1003), some (.ref 0), some (.ref 60), some (.int (nI i))] [.int (q_lead σ), .int (q_lead σ)] (sh, sg2, la2)
  refine A_icmp_eq (tgt := 1791) dL_law_1507 rfl (fun _ => ?_) (fun h => absurd rfl h)
  exact back sh sg2 la2 _ _ _ bc bs (LI_go hX hS hK1 hR2 hb)
set_option maxHeartbeats 1000000 in
set_option maxRecDepth 100000 in
theorem lc_43 (l : Launch) (G : az_Gh) (F : az_Fn) (bc bs i : Nat) (sh : List az_Sh) (sg : Nat → Nat → Int32) (la : Nat → Nat → Int64) (σ : SGM) (kp tr : Option Nat) (hL : (az_ex G 1003).1 < 2 ^ 31) (hi : i + 6 ≤ (az_ex G 1003).1) (hI : LI sh sg la σ kp tr bc bs) (back : ∀ (sh : List az_Sh) (sg : Nat → Nat → Int32) (la : Nat → Nat → Int64) (σ : SGM) (kp tr : Option Nat) (bc bs : Nat), LI sh sg la σ kp tr bc bs → AW l G mL_law 2048 F bc bs 1791 [some (.ref 1003), some (.ref 0), some (.ref 60), some (.int (nI i))] [] (sh, sg, la)) : AW l G mL_law 2048 F bc bs 1512 [some (.ref 1003), some (.ref 0), some (.ref 60), some (.int (nI i))] [] (sh, sg, la) := by
  obtain ⟨hX, hS, hK, hR, hb⟩ := hI
  refine A_aload_n dL_law_1512 rfl rfl ?_
  refine A_callV (n := 0) dL_law_1513 kvX7_quiet mlL_194 rfl (az_rc_obj clX7 (hX 0 _ rfl)) (x_quiet l G 2000 sh sg la (sg, la) σ hX hK) (by decide) (Nat.le_refl _) (Nat.le_refl _) rfl (Nat.le_of_ble_eq_true rfl) (fun r S1 hp => ?_)
  obtain ⟨rfl, sg1, la1, rfl, hK1⟩ := hp
  show AW l G mL_law 2048 F bc bs 1516 [some (.ref 1003), some (.ref 0), some (.ref 60), some (.int (nI i))] [.int (q_quiet σ)] (sh, sg1, la1)
  have hR1 := hR.mv hK1
  refine A_aload_n dL_law_1516 rfl rfl ?_
  refine A_callV (n := 0) dL_law_1517 kvX8_quiet mlL_197 rfl (az_rc_obj clX8 (hS.1 0 _ rfl)) (y_quiet l G 2000 sh sg1 la1 (sg1, la1) σ kp tr hS.1 hR1 hK.wf) (by decide) (Nat.le_refl _) (Nat.le_refl _) rfl (Nat.le_of_ble_eq_true rfl) (fun r S1 hp => ?_)
  obtain ⟨rfl, sg2, la2, rfl, hR2⟩ := hp
  show AW l G mL_law 2048 F bc bs 1520 [some (.ref 1003), some (.ref 0), some (.ref 60), some (.int (nI i))] [.int (q_quiet σ), .int (q_quiet σ)] (sh, sg2, la2)
  refine A_icmp_eq (tgt := 1791) dL_law_1520 rfl (fun _ => ?_) (fun h => absurd rfl h)
  exact back sh sg2 la2 _ _ _ bc bs (LI_go hX hS hK1 hR2 hb)
set_option maxHeartbeats 1000000 in
set_option maxRecDepth 100000 in
theorem lc_44 (l : Launch) (G : az_Gh) (F : az_Fn) (bc bs i : Nat) (sh : List az_Sh) (sg : Nat → Nat → Int32) (la : Nat → Nat → Int64) (σ : SGM) (kp tr : Option Nat) (hL : (az_ex G 1003).1 < 2 ^ 31) (hi : i + 6 ≤ (az_ex G 1003).1) (hI : LI sh sg la σ kp tr bc bs) (back : ∀ (sh : List az_Sh) (sg : Nat → Nat → Int32) (la : Nat → Nat → Int64) (σ : SGM) (kp tr : Option Nat) (bc bs : Nat), LI sh sg la σ kp tr bc bs → AW l G mL_law 2048 F bc bs 1791 [some (.ref 1003), some (.ref 0), some (.ref 60), some (.int (nI i))] [] (sh, sg, la)) : AW l G mL_law 2048 F bc bs 1525 [some (.ref 1003), some (.ref 0), some (.ref 60), some (.int (nI i))] [] (sh, sg, la) := by
  obtain ⟨hX, hS, hK, hR, hb⟩ := hI
  refine A_aload_n dL_law_1525 rfl rfl ?_
  refine A_aload_n dL_law_1526 rfl rfl ?_
  refine A_iload_n dL_law_1527 rfl rfl ?_
  refine A_iconst (v := 1) dL_law_1528 (by decide) ?_
  refine A_iadd dL_law_1529 ?_
  refine A_eald (k := 1003) (i := i + 1) dL_law_1530 (by decide) (by decide) (by omega) hL (nI_add i 1) ?_
  refine A_callV (n := 0) dL_law_1531 kvX7_second mlL_198 rfl (az_rc_obj clX7 (hX 0 _ rfl)) (x_second l G 2000 sh sg la (sg, la) σ ((az_ex G 1003).2 (i + 1)) hX hK) (by decide) (Nat.le_refl _) (Nat.le_refl _) rfl (Nat.le_of_ble_eq_true rfl) (fun r S1 hp => ?_)
  obtain ⟨rfl, sg1, la1, rfl, hK1⟩ := hp
  show AW l G mL_law 2048 F bc bs 1534 [some (.ref 1003), some (.ref 0), some (.ref 60), some (.int (nI i))] [.int (q_second σ ((az_ex G 1003).2 (i + 1))).1] (sh, sg1, la1)
  have hR1 := hR.mv hK1
  refine A_aload_n dL_law_1534 rfl rfl ?_
  refine A_aload_n dL_law_1535 rfl rfl ?_
  refine A_iload_n dL_law_1536 rfl rfl ?_
  refine A_iconst (v := 1) dL_law_1537 (by decide) ?_
  refine A_iadd dL_law_1538 ?_
  refine A_eald (k := 1003) (i := i + 1) dL_law_1539 (by decide) (by decide) (by omega) hL (nI_add i 1) ?_
  refine A_callV (n := 0) dL_law_1540 kvX8_second mlL_201 rfl (az_rc_obj clX8 (hS.1 0 _ rfl)) (y_second l G 2000 sh sg1 la1 (sg1, la1) σ kp tr ((az_ex G 1003).2 (i + 1)) hS.1 hR1 hK.wf) (by decide) (Nat.le_refl _) (Nat.le_refl _) rfl (Nat.le_of_ble_eq_true rfl) (fun r S1 hp => ?_)
  obtain ⟨rfl, sg2, la2, rfl, hR2⟩ := hp
  show AW l G mL_law 2048 F bc bs 1543 [some (.ref 1003), some (.ref 0), some (.ref 60), some (.int (nI i))] [.int (q_second σ ((az_ex G 1003).2 (i + 1))).1, .int (q_second σ ((az_ex G 1003).2 (i + 1))).1] (sh, sg2, la2)
  refine A_icmp_eq (tgt := 1791) dL_law_1543 rfl (fun _ => ?_) (fun h => absurd rfl h)
  exact back sh sg2 la2 _ _ _ bc bs (LI_go hX hS hK1 hR2 hb)
set_option maxHeartbeats 1000000 in
set_option maxRecDepth 100000 in
theorem lc_45 (l : Launch) (G : az_Gh) (F : az_Fn) (bc bs i : Nat) (sh : List az_Sh) (sg : Nat → Nat → Int32) (la : Nat → Nat → Int64) (σ : SGM) (kp tr : Option Nat) (hL : (az_ex G 1003).1 < 2 ^ 31) (hi : i + 6 ≤ (az_ex G 1003).1) (hI : LI sh sg la σ kp tr bc bs) (back : ∀ (sh : List az_Sh) (sg : Nat → Nat → Int32) (la : Nat → Nat → Int64) (σ : SGM) (kp tr : Option Nat) (bc bs : Nat), LI sh sg la σ kp tr bc bs → AW l G mL_law 2048 F bc bs 1791 [some (.ref 1003), some (.ref 0), some (.ref 60), some (.int (nI i))] [] (sh, sg, la)) : AW l G mL_law 2048 F bc bs 1548 [some (.ref 1003), some (.ref 0), some (.ref 60), some (.int (nI i))] [] (sh, sg, la) := by
  obtain ⟨hX, hS, hK, hR, hb⟩ := hI
  refine A_aload_n dL_law_1548 rfl rfl ?_
  refine A_aload_n dL_law_1549 rfl rfl ?_
  refine A_iload_n dL_law_1550 rfl rfl ?_
  refine A_iconst (v := 1) dL_law_1551 (by decide) ?_
  refine A_iadd dL_law_1552 ?_
  refine A_eald (k := 1003) (i := i + 1) dL_law_1553 (by decide) (by decide) (by omega) hL (nI_add i 1) ?_
  refine A_callV (n := 0) dL_law_1554 kvX7_gap mlL_202 rfl (az_rc_obj clX7 (hX 0 _ rfl)) (x_gap l G 2000 sh sg la (sg, la) σ ((az_ex G 1003).2 (i + 1)) hX hK) (by decide) (Nat.le_refl _) (Nat.le_refl _) rfl (Nat.le_of_ble_eq_true rfl) (fun r S1 hp => ?_)
  obtain ⟨rfl, sg1, la1, rfl, hK1⟩ := hp
  show AW l G mL_law 2048 F bc bs 1557 [some (.ref 1003), some (.ref 0), some (.ref 60), some (.int (nI i))] [.int (q_gap σ ((az_ex G 1003).2 (i + 1))).1] (sh, sg1, la1)
  have hR1 := hR.mv hK1
  refine A_aload_n dL_law_1557 rfl rfl ?_
  refine A_aload_n dL_law_1558 rfl rfl ?_
  refine A_iload_n dL_law_1559 rfl rfl ?_
  refine A_iconst (v := 1) dL_law_1560 (by decide) ?_
  refine A_iadd dL_law_1561 ?_
  refine A_eald (k := 1003) (i := i + 1) dL_law_1562 (by decide) (by decide) (by omega) hL (nI_add i 1) ?_
  refine A_callV (n := 0) dL_law_1563 kvX8_gap mlL_205 rfl (az_rc_obj clX8 (hS.1 0 _ rfl)) (y_gap l G 2000 sh sg1 la1 (sg1, la1) σ kp tr ((az_ex G 1003).2 (i + 1)) hS.1 hR1 hK.wf) (by decide) (Nat.le_refl _) (Nat.le_refl _) rfl (Nat.le_of_ble_eq_true rfl) (fun r S1 hp => ?_)
  obtain ⟨rfl, sg2, la2, rfl, hR2⟩ := hp
  show AW l G mL_law 2048 F bc bs 1566 [some (.ref 1003), some (.ref 0), some (.ref 60), some (.int (nI i))] [.int (q_gap σ ((az_ex G 1003).2 (i + 1))).1, .int (q_gap σ ((az_ex G 1003).2 (i + 1))).1] (sh, sg2, la2)
  refine A_icmp_eq (tgt := 1791) dL_law_1566 rfl (fun _ => ?_) (fun h => absurd rfl h)
  exact back sh sg2 la2 _ _ _ bc bs (LI_go hX hS hK1 hR2 hb)
set_option maxHeartbeats 1000000 in
set_option maxRecDepth 100000 in
theorem lc_46 (l : Launch) (G : az_Gh) (F : az_Fn) (bc bs i : Nat) (sh : List az_Sh) (sg : Nat → Nat → Int32) (la : Nat → Nat → Int64) (σ : SGM) (kp tr : Option Nat) (hL : (az_ex G 1003).1 < 2 ^ 31) (hi : i + 6 ≤ (az_ex G 1003).1) (hI : LI sh sg la σ kp tr bc bs) (back : ∀ (sh : List az_Sh) (sg : Nat → Nat → Int32) (la : Nat → Nat → Int64) (σ : SGM) (kp tr : Option Nat) (bc bs : Nat), LI sh sg la σ kp tr bc bs → AW l G mL_law 2048 F bc bs 1791 [some (.ref 1003), some (.ref 0), some (.ref 60), some (.int (nI i))] [] (sh, sg, la)) : AW l G mL_law 2048 F bc bs 1571 [some (.ref 1003), some (.ref 0), some (.ref 60), some (.int (nI i))] [] (sh, sg, la) := by
  obtain ⟨hX, hS, hK, hR, hb⟩ := hI
  refine A_aload_n dL_law_1571 rfl rfl ?_
  refine A_aload_n dL_law_1572 rfl rfl ?_
  refine A_iload_n dL_law_1573 rfl rfl ?_
  refine A_iconst (v := 1) dL_law_1574 (by decide) ?_
  refine A_iadd dL_law_1575 ?_
  refine A_eald (k := 1003) (i := i + 1) dL_law_1576 (by decide) (by decide) (by omega) hL (nI_add i 1) ?_
  refine A_callV (n := 0) dL_law_1577 kvX7_bites mlL_206 rfl (az_rc_obj clX7 (hX 0 _ rfl)) (x_bites l G 2000 sh sg la (sg, la) σ ((az_ex G 1003).2 (i + 1)) hX hK) (by decide) (Nat.le_refl _) (Nat.le_refl _) rfl (Nat.le_of_ble_eq_true rfl) (fun r S1 hp => ?_)
  obtain ⟨rfl, sg1, la1, rfl, hK1⟩ := hp
  show AW l G mL_law 2048 F bc bs 1580 [some (.ref 1003), some (.ref 0), some (.ref 60), some (.int (nI i))] [.int (q_bites σ ((az_ex G 1003).2 (i + 1))).1] (sh, sg1, la1)
  have hR1 := hR.mv hK1
  refine A_aload_n dL_law_1580 rfl rfl ?_
  refine A_aload_n dL_law_1581 rfl rfl ?_
  refine A_iload_n dL_law_1582 rfl rfl ?_
  refine A_iconst (v := 1) dL_law_1583 (by decide) ?_
  refine A_iadd dL_law_1584 ?_
  refine A_eald (k := 1003) (i := i + 1) dL_law_1585 (by decide) (by decide) (by omega) hL (nI_add i 1) ?_
  refine A_callV (n := 0) dL_law_1586 kvX8_bites mlL_209 rfl (az_rc_obj clX8 (hS.1 0 _ rfl)) (y_bites l G 2000 sh sg1 la1 (sg1, la1) σ kp tr ((az_ex G 1003).2 (i + 1)) hS.1 hR1 hK.wf) (by decide) (Nat.le_refl _) (Nat.le_refl _) rfl (Nat.le_of_ble_eq_true rfl) (fun r S1 hp => ?_)
  obtain ⟨rfl, sg2, la2, rfl, hR2⟩ := hp
  show AW l G mL_law 2048 F bc bs 1589 [some (.ref 1003), some (.ref 0), some (.ref 60), some (.int (nI i))] [.int (q_bites σ ((az_ex G 1003).2 (i + 1))).1, .int (q_bites σ ((az_ex G 1003).2 (i + 1))).1] (sh, sg2, la2)
  refine A_icmp_eq (tgt := 1791) dL_law_1589 rfl (fun _ => ?_) (fun h => absurd rfl h)
  exact back sh sg2 la2 _ _ _ bc bs (LI_go hX hS hK1 hR2 hb)
set_option maxHeartbeats 1000000 in
set_option maxRecDepth 100000 in
theorem lc_47 (l : Launch) (G : az_Gh) (F : az_Fn) (bc bs i : Nat) (sh : List az_Sh) (sg : Nat → Nat → Int32) (la : Nat → Nat → Int64) (σ : SGM) (kp tr : Option Nat) (hL : (az_ex G 1003).1 < 2 ^ 31) (hi : i + 6 ≤ (az_ex G 1003).1) (hI : LI sh sg la σ kp tr bc bs) (back : ∀ (sh : List az_Sh) (sg : Nat → Nat → Int32) (la : Nat → Nat → Int64) (σ : SGM) (kp tr : Option Nat) (bc bs : Nat), LI sh sg la σ kp tr bc bs → AW l G mL_law 2048 F bc bs 1791 [some (.ref 1003), some (.ref 0), some (.ref 60), some (.int (nI i))] [] (sh, sg, la)) : AW l G mL_law 2048 F bc bs 1594 [some (.ref 1003), some (.ref 0), some (.ref 60), some (.int (nI i))] [] (sh, sg, la) := by
  obtain ⟨hX, hS, hK, hR, hb⟩ := hI
  refine A_aload_n dL_law_1594 rfl rfl ?_
  refine A_aload_n dL_law_1595 rfl rfl ?_
  refine A_iload_n dL_law_1596 rfl rfl ?_
  refine A_iconst (v := 1) dL_law_1597 (by decide) ?_
  refine A_iadd dL_law_1598 ?_
  refine A_eald (k := 1003) (i := i + 1) dL_law_1599 (by decide) (by decide) (by omega) hL (nI_add i 1) ?_
  refine A_callV (n := 0) dL_law_1600 kvX7_all mlL_210 rfl (az_rc_obj clX7 (hX 0 _ rfl)) (x_all l G 2000 sh sg la (sg, la) σ ((az_ex G 1003).2 (i + 1)) hX hK) (by decide) (Nat.le_refl _) (Nat.le_refl _) rfl (Nat.le_of_ble_eq_true rfl) (fun r S1 hp => ?_)
  obtain ⟨rfl, sg1, la1, rfl, hK1⟩ := hp
  show AW l G mL_law 2048 F bc bs 1603 [some (.ref 1003), some (.ref 0), some (.ref 60), some (.int (nI i))] [.int (q_all σ ((az_ex G 1003).2 (i + 1))).1] (sh, sg1, la1)
  have hR1 := hR.mv hK1
  refine A_aload_n dL_law_1603 rfl rfl ?_
  refine A_aload_n dL_law_1604 rfl rfl ?_
  refine A_iload_n dL_law_1605 rfl rfl ?_
  refine A_iconst (v := 1) dL_law_1606 (by decide) ?_
  refine A_iadd dL_law_1607 ?_
  refine A_eald (k := 1003) (i := i + 1) dL_law_1608 (by decide) (by decide) (by omega) hL (nI_add i 1) ?_
  refine A_callV (n := 0) dL_law_1609 kvX8_all mlL_213 rfl (az_rc_obj clX8 (hS.1 0 _ rfl)) (y_all l G 2000 sh sg1 la1 (sg1, la1) σ kp tr ((az_ex G 1003).2 (i + 1)) hS.1 hR1 hK.wf) (by decide) (Nat.le_refl _) (Nat.le_refl _) rfl (Nat.le_of_ble_eq_true rfl) (fun r S1 hp => ?_)
  obtain ⟨rfl, sg2, la2, rfl, hR2⟩ := hp
  show AW l G mL_law 2048 F bc bs 1612 [some (.ref 1003), some (.ref 0), some (.ref 60), some (.int (nI i))] [.int (q_all σ ((az_ex G 1003).2 (i + 1))).1, .int (q_all σ ((az_ex G 1003).2 (i + 1))).1] (sh, sg2, la2)
  refine A_icmp_eq (tgt := 1791) dL_law_1612 rfl (fun _ => ?_) (fun h => absurd rfl h)
  exact back sh sg2 la2 _ _ _ bc bs (LI_go hX hS hK1 hR2 hb)
set_option maxHeartbeats 1000000 in
set_option maxRecDepth 100000 in
theorem lc_48 (l : Launch) (G : az_Gh) (F : az_Fn) (bc bs i : Nat) (sh : List az_Sh) (sg : Nat → Nat → Int32) (la : Nat → Nat → Int64) (σ : SGM) (kp tr : Option Nat) (hL : (az_ex G 1003).1 < 2 ^ 31) (hi : i + 6 ≤ (az_ex G 1003).1) (hI : LI sh sg la σ kp tr bc bs) (back : ∀ (sh : List az_Sh) (sg : Nat → Nat → Int32) (la : Nat → Nat → Int64) (σ : SGM) (kp tr : Option Nat) (bc bs : Nat), LI sh sg la σ kp tr bc bs → AW l G mL_law 2048 F bc bs 1791 [some (.ref 1003), some (.ref 0), some (.ref 60), some (.int (nI i))] [] (sh, sg, la)) : AW l G mL_law 2048 F bc bs 1617 [some (.ref 1003), some (.ref 0), some (.ref 60), some (.int (nI i))] [] (sh, sg, la) := by
  obtain ⟨hX, hS, hK, hR, hb⟩ := hI
  refine A_aload_n dL_law_1617 rfl rfl ?_
  refine A_aload_n dL_law_1618 rfl rfl ?_
  refine A_iload_n dL_law_1619 rfl rfl ?_
  refine A_iconst (v := 1) dL_law_1620 (by decide) ?_
  refine A_iadd dL_law_1621 ?_
  refine A_eald (k := 1003) (i := i + 1) dL_law_1622 (by decide) (by decide) (by omega) hL (nI_add i 1) ?_
  refine A_callV (n := 0) dL_law_1623 kvX7_ofKind mlL_214 rfl (az_rc_obj clX7 (hX 0 _ rfl)) (x_ofKind l G 2000 sh sg la (sg, la) σ ((az_ex G 1003).2 (i + 1)) hX hK) (by decide) (Nat.le_refl _) (Nat.le_refl _) rfl (Nat.le_of_ble_eq_true rfl) (fun r S1 hp => ?_)
  obtain ⟨rfl, sg1, la1, rfl, hK1⟩ := hp
  show AW l G mL_law 2048 F bc bs 1626 [some (.ref 1003), some (.ref 0), some (.ref 60), some (.int (nI i))] [.int (q_ofKind σ ((az_ex G 1003).2 (i + 1))).1] (sh, sg1, la1)
  have hR1 := hR.mv hK1
  refine A_aload_n dL_law_1626 rfl rfl ?_
  refine A_aload_n dL_law_1627 rfl rfl ?_
  refine A_iload_n dL_law_1628 rfl rfl ?_
  refine A_iconst (v := 1) dL_law_1629 (by decide) ?_
  refine A_iadd dL_law_1630 ?_
  refine A_eald (k := 1003) (i := i + 1) dL_law_1631 (by decide) (by decide) (by omega) hL (nI_add i 1) ?_
  refine A_callV (n := 0) dL_law_1632 kvX8_ofKind mlL_217 rfl (az_rc_obj clX8 (hS.1 0 _ rfl)) (y_ofKind l G 2000 sh sg1 la1 (sg1, la1) σ kp tr ((az_ex G 1003).2 (i + 1)) hS.1 hR1 hK.wf) (by decide) (Nat.le_refl _) (Nat.le_refl _) rfl (Nat.le_of_ble_eq_true rfl) (fun r S1 hp => ?_)
  obtain ⟨rfl, sg2, la2, rfl, hR2⟩ := hp
  show AW l G mL_law 2048 F bc bs 1635 [some (.ref 1003), some (.ref 0), some (.ref 60), some (.int (nI i))] [.int (q_ofKind σ ((az_ex G 1003).2 (i + 1))).1, .int (q_ofKind σ ((az_ex G 1003).2 (i + 1))).1] (sh, sg2, la2)
  refine A_icmp_eq (tgt := 1791) dL_law_1635 rfl (fun _ => ?_) (fun h => absurd rfl h)
  exact back sh sg2 la2 _ _ _ bc bs (LI_go hX hS hK1 hR2 hb)
set_option maxHeartbeats 1000000 in
set_option maxRecDepth 100000 in
theorem lc_49 (l : Launch) (G : az_Gh) (F : az_Fn) (bc bs i : Nat) (sh : List az_Sh) (sg : Nat → Nat → Int32) (la : Nat → Nat → Int64) (σ : SGM) (kp tr : Option Nat) (hL : (az_ex G 1003).1 < 2 ^ 31) (hi : i + 6 ≤ (az_ex G 1003).1) (hI : LI sh sg la σ kp tr bc bs) (back : ∀ (sh : List az_Sh) (sg : Nat → Nat → Int32) (la : Nat → Nat → Int64) (σ : SGM) (kp tr : Option Nat) (bc bs : Nat), LI sh sg la σ kp tr bc bs → AW l G mL_law 2048 F bc bs 1791 [some (.ref 1003), some (.ref 0), some (.ref 60), some (.int (nI i))] [] (sh, sg, la)) : AW l G mL_law 2048 F bc bs 1640 [some (.ref 1003), some (.ref 0), some (.ref 60), some (.int (nI i))] [] (sh, sg, la) := by
  obtain ⟨hX, hS, hK, hR, hb⟩ := hI
  refine A_aload_n dL_law_1640 rfl rfl ?_
  refine A_aload_n dL_law_1641 rfl rfl ?_
  refine A_iload_n dL_law_1642 rfl rfl ?_
  refine A_iconst (v := 1) dL_law_1643 (by decide) ?_
  refine A_iadd dL_law_1644 ?_
  refine A_eald (k := 1003) (i := i + 1) dL_law_1645 (by decide) (by decide) (by omega) hL (nI_add i 1) ?_
  refine A_aload_n dL_law_1646 rfl rfl ?_
  refine A_iload_n dL_law_1647 rfl rfl ?_
  refine A_iconst (v := 2) dL_law_1648 (by decide) ?_
  refine A_iadd dL_law_1649 ?_
  refine A_eald (k := 1003) (i := i + 2) dL_law_1650 (by decide) (by decide) (by omega) hL (nI_add i 2) ?_
  refine A_callV (n := 0) dL_law_1651 kvX7_judge mlL_218 rfl (az_rc_obj clX7 (hX 0 _ rfl)) (x_judge l G 2000 sh sg la (sg, la) σ ((az_ex G 1003).2 (i + 1)) ((az_ex G 1003).2 (i + 2)) hX hK) (by decide) (Nat.le_refl _) (Nat.le_refl _) rfl (Nat.le_of_ble_eq_true rfl) (fun r S1 hp => ?_)
  obtain ⟨rfl, sg1, la1, rfl, hK1⟩ := hp
  show AW l G mL_law 2048 F bc bs 1654 [some (.ref 1003), some (.ref 0), some (.ref 60), some (.int (nI i))] [.int (q_judge σ ((az_ex G 1003).2 (i + 1)) ((az_ex G 1003).2 (i + 2))).1] (sh, sg1, la1)
  have hR1 := hR.mv hK1
  refine A_aload_n dL_law_1654 rfl rfl ?_
  refine A_aload_n dL_law_1655 rfl rfl ?_
  refine A_iload_n dL_law_1656 rfl rfl ?_
  refine A_iconst (v := 1) dL_law_1657 (by decide) ?_
  refine A_iadd dL_law_1658 ?_
  refine A_eald (k := 1003) (i := i + 1) dL_law_1659 (by decide) (by decide) (by omega) hL (nI_add i 1) ?_
  refine A_aload_n dL_law_1660 rfl rfl ?_
  refine A_iload_n dL_law_1661 rfl rfl ?_
  refine A_iconst (v := 2) dL_law_1662 (by decide) ?_
  refine A_iadd dL_law_1663 ?_
  refine A_eald (k := 1003) (i := i + 2) dL_law_1664 (by decide) (by decide) (by omega) hL (nI_add i 2) ?_
  refine A_callV (n := 0) dL_law_1665 kvX8_judge mlL_221 rfl (az_rc_obj clX8 (hS.1 0 _ rfl)) (y_judge l G 2000 sh sg1 la1 (sg1, la1) σ kp tr ((az_ex G 1003).2 (i + 1)) ((az_ex G 1003).2 (i + 2)) hS.1 hR1 hK.wf) (by decide) (Nat.le_refl _) (Nat.le_refl _) rfl (Nat.le_of_ble_eq_true rfl) (fun r S1 hp => ?_)
  obtain ⟨rfl, sg2, la2, rfl, hR2⟩ := hp
  show AW l G mL_law 2048 F bc bs 1668 [some (.ref 1003), some (.ref 0), some (.ref 60), some (.int (nI i))] [.int (q_judge σ ((az_ex G 1003).2 (i + 1)) ((az_ex G 1003).2 (i + 2))).1, .int (q_judge σ ((az_ex G 1003).2 (i + 1)) ((az_ex G 1003).2 (i + 2))).1] (sh, sg2, la2)
  refine A_icmp_eq (tgt := 1791) dL_law_1668 rfl (fun _ => ?_) (fun h => absurd rfl h)
  exact back sh sg2 la2 _ _ _ bc bs (LI_go hX hS hK1 hR2 hb)
set_option maxHeartbeats 1000000 in
set_option maxRecDepth 100000 in
theorem lc_50 (l : Launch) (G : az_Gh) (F : az_Fn) (bc bs i : Nat) (sh : List az_Sh) (sg : Nat → Nat → Int32) (la : Nat → Nat → Int64) (σ : SGM) (kp tr : Option Nat) (hL : (az_ex G 1003).1 < 2 ^ 31) (hi : i + 6 ≤ (az_ex G 1003).1) (hI : LI sh sg la σ kp tr bc bs) (back : ∀ (sh : List az_Sh) (sg : Nat → Nat → Int32) (la : Nat → Nat → Int64) (σ : SGM) (kp tr : Option Nat) (bc bs : Nat), LI sh sg la σ kp tr bc bs → AW l G mL_law 2048 F bc bs 1791 [some (.ref 1003), some (.ref 0), some (.ref 60), some (.int (nI i))] [] (sh, sg, la)) : AW l G mL_law 2048 F bc bs 1673 [some (.ref 1003), some (.ref 0), some (.ref 60), some (.int (nI i))] [] (sh, sg, la) := by
  obtain ⟨hX, hS, hK, hR, hb⟩ := hI
  refine A_aload_n dL_law_1673 rfl rfl ?_
  refine A_aload_n dL_law_1674 rfl rfl ?_
  refine A_iload_n dL_law_1675 rfl rfl ?_
  refine A_iconst (v := 1) dL_law_1676 (by decide) ?_
  refine A_iadd dL_law_1677 ?_
  refine A_eald (k := 1003) (i := i + 1) dL_law_1678 (by decide) (by decide) (by omega) hL (nI_add i 1) ?_
  refine A_callV (n := 0) dL_law_1679 kvX7_days mlL_222 rfl (az_rc_obj clX7 (hX 0 _ rfl)) (x_days l G 2000 sh sg la (sg, la) σ ((az_ex G 1003).2 (i + 1)) hX hK) (by decide) (Nat.le_refl _) (Nat.le_refl _) rfl (Nat.le_of_ble_eq_true rfl) (fun r S1 hp => ?_)
  obtain ⟨rfl, sg1, la1, rfl, hK1⟩ := hp
  show AW l G mL_law 2048 F bc bs 1682 [some (.ref 1003), some (.ref 0), some (.ref 60), some (.int (nI i))] [.int (q_days σ ((az_ex G 1003).2 (i + 1))).1] (sh, sg1, la1)
  have hR1 := hR.mv hK1
  refine A_aload_n dL_law_1682 rfl rfl ?_
  refine A_aload_n dL_law_1683 rfl rfl ?_
  refine A_iload_n dL_law_1684 rfl rfl ?_
  refine A_iconst (v := 1) dL_law_1685 (by decide) ?_
  refine A_iadd dL_law_1686 ?_
  refine A_eald (k := 1003) (i := i + 1) dL_law_1687 (by decide) (by decide) (by omega) hL (nI_add i 1) ?_
  refine A_callV (n := 0) dL_law_1688 kvX8_days mlL_225 rfl (az_rc_obj clX8 (hS.1 0 _ rfl)) (y_days l G 2000 sh sg1 la1 (sg1, la1) σ kp tr ((az_ex G 1003).2 (i + 1)) hS.1 hR1 hK.wf) (by decide) (Nat.le_refl _) (Nat.le_refl _) rfl (Nat.le_of_ble_eq_true rfl) (fun r S1 hp => ?_)
  obtain ⟨rfl, sg2, la2, rfl, hR2⟩ := hp
  show AW l G mL_law 2048 F bc bs 1691 [some (.ref 1003), some (.ref 0), some (.ref 60), some (.int (nI i))] [.int (q_days σ ((az_ex G 1003).2 (i + 1))).1, .int (q_days σ ((az_ex G 1003).2 (i + 1))).1] (sh, sg2, la2)
  refine A_icmp_eq (tgt := 1791) dL_law_1691 rfl (fun _ => ?_) (fun h => absurd rfl h)
  exact back sh sg2 la2 _ _ _ bc bs (LI_go hX hS hK1 hR2 hb)
set_option maxHeartbeats 1000000 in
set_option maxRecDepth 100000 in
theorem lc_51 (l : Launch) (G : az_Gh) (F : az_Fn) (bc bs i : Nat) (sh : List az_Sh) (sg : Nat → Nat → Int32) (la : Nat → Nat → Int64) (σ : SGM) (kp tr : Option Nat) (hL : (az_ex G 1003).1 < 2 ^ 31) (hi : i + 6 ≤ (az_ex G 1003).1) (hI : LI sh sg la σ kp tr bc bs) (back : ∀ (sh : List az_Sh) (sg : Nat → Nat → Int32) (la : Nat → Nat → Int64) (σ : SGM) (kp tr : Option Nat) (bc bs : Nat), LI sh sg la σ kp tr bc bs → AW l G mL_law 2048 F bc bs 1791 [some (.ref 1003), some (.ref 0), some (.ref 60), some (.int (nI i))] [] (sh, sg, la)) : AW l G mL_law 2048 F bc bs 1696 [some (.ref 1003), some (.ref 0), some (.ref 60), some (.int (nI i))] [] (sh, sg, la) := by
  obtain ⟨hX, hS, hK, hR, hb⟩ := hI
  refine A_aload_n dL_law_1696 rfl rfl ?_
  refine A_aload_n dL_law_1697 rfl rfl ?_
  refine A_iload_n dL_law_1698 rfl rfl ?_
  refine A_iconst (v := 1) dL_law_1699 (by decide) ?_
  refine A_iadd dL_law_1700 ?_
  refine A_eald (k := 1003) (i := i + 1) dL_law_1701 (by decide) (by decide) (by omega) hL (nI_add i 1) ?_
  refine A_callV (n := 0) dL_law_1702 kvX7_drawn mlL_226 rfl (az_rc_obj clX7 (hX 0 _ rfl)) (x_drawn l G 2000 sh sg la (sg, la) σ ((az_ex G 1003).2 (i + 1)) hX hK) (by decide) (Nat.le_refl _) (Nat.le_refl _) rfl (Nat.le_of_ble_eq_true rfl) (fun r S1 hp => ?_)
  obtain ⟨rfl, sg1, la1, rfl, hK1⟩ := hp
  show AW l G mL_law 2048 F bc bs 1705 [some (.ref 1003), some (.ref 0), some (.ref 60), some (.int (nI i))] [.int (q_drawn σ ((az_ex G 1003).2 (i + 1))).1] (sh, sg1, la1)
  have hR1 := hR.mv hK1
  refine A_aload_n dL_law_1705 rfl rfl ?_
  refine A_aload_n dL_law_1706 rfl rfl ?_
  refine A_iload_n dL_law_1707 rfl rfl ?_
  refine A_iconst (v := 1) dL_law_1708 (by decide) ?_
  refine A_iadd dL_law_1709 ?_
  refine A_eald (k := 1003) (i := i + 1) dL_law_1710 (by decide) (by decide) (by omega) hL (nI_add i 1) ?_
  refine A_callV (n := 0) dL_law_1711 kvX8_drawn mlL_229 rfl (az_rc_obj clX8 (hS.1 0 _ rfl)) (y_drawn l G 2000 sh sg1 la1 (sg1, la1) σ kp tr ((az_ex G 1003).2 (i + 1)) hS.1 hR1 hK.wf) (by decide) (Nat.le_refl _) (Nat.le_refl _) rfl (Nat.le_of_ble_eq_true rfl) (fun r S1 hp => ?_)
  obtain ⟨rfl, sg2, la2, rfl, hR2⟩ := hp
  show AW l G mL_law 2048 F bc bs 1714 [some (.ref 1003), some (.ref 0), some (.ref 60), some (.int (nI i))] [.int (q_drawn σ ((az_ex G 1003).2 (i + 1))).1, .int (q_drawn σ ((az_ex G 1003).2 (i + 1))).1] (sh, sg2, la2)
  refine A_icmp_eq (tgt := 1791) dL_law_1714 rfl (fun _ => ?_) (fun h => absurd rfl h)
  exact back sh sg2 la2 _ _ _ bc bs (LI_go hX hS hK1 hR2 hb)
set_option maxHeartbeats 1000000 in
set_option maxRecDepth 100000 in
theorem lc_52 (l : Launch) (G : az_Gh) (F : az_Fn) (bc bs i : Nat) (sh : List az_Sh) (sg : Nat → Nat → Int32) (la : Nat → Nat → Int64) (σ : SGM) (kp tr : Option Nat) (hL : (az_ex G 1003).1 < 2 ^ 31) (hi : i + 6 ≤ (az_ex G 1003).1) (hI : LI sh sg la σ kp tr bc bs) (back : ∀ (sh : List az_Sh) (sg : Nat → Nat → Int32) (la : Nat → Nat → Int64) (σ : SGM) (kp tr : Option Nat) (bc bs : Nat), LI sh sg la σ kp tr bc bs → AW l G mL_law 2048 F bc bs 1791 [some (.ref 1003), some (.ref 0), some (.ref 60), some (.int (nI i))] [] (sh, sg, la)) : AW l G mL_law 2048 F bc bs 1719 [some (.ref 1003), some (.ref 0), some (.ref 60), some (.int (nI i))] [] (sh, sg, la) := by
  obtain ⟨hX, hS, hK, hR, hb⟩ := hI
  refine A_aload_n dL_law_1719 rfl rfl ?_
  refine A_aload_n dL_law_1720 rfl rfl ?_
  refine A_iload_n dL_law_1721 rfl rfl ?_
  refine A_iconst (v := 1) dL_law_1722 (by decide) ?_
  refine A_iadd dL_law_1723 ?_
  refine A_eald (k := 1003) (i := i + 1) dL_law_1724 (by decide) (by decide) (by omega) hL (nI_add i 1) ?_
  refine A_callV (n := 0) dL_law_1725 kvX7_seed mlL_230 rfl (az_rc_obj clX7 (hX 0 _ rfl)) (x_seed l G 2000 sh sg la (sg, la) σ ((az_ex G 1003).2 (i + 1)) hX hK) (by decide) (Nat.le_refl _) (Nat.le_refl _) rfl (Nat.le_of_ble_eq_true rfl) (fun r S1 hp => ?_)
  obtain ⟨rfl, sg1, la1, rfl, hK1⟩ := hp
  show AW l G mL_law 2048 F bc bs 1728 [some (.ref 1003), some (.ref 0), some (.ref 60), some (.int (nI i))] [.int (q_seed σ ((az_ex G 1003).2 (i + 1))).1] (sh, sg1, la1)
  have hR1 := hR.mv hK1
  refine A_aload_n dL_law_1728 rfl rfl ?_
  refine A_aload_n dL_law_1729 rfl rfl ?_
  refine A_iload_n dL_law_1730 rfl rfl ?_
  refine A_iconst (v := 1) dL_law_1731 (by decide) ?_
  refine A_iadd dL_law_1732 ?_
  refine A_eald (k := 1003) (i := i + 1) dL_law_1733 (by decide) (by decide) (by omega) hL (nI_add i 1) ?_
  refine A_callV (n := 0) dL_law_1734 kvX8_seed mlL_233 rfl (az_rc_obj clX8 (hS.1 0 _ rfl)) (y_seed l G 2000 sh sg1 la1 (sg1, la1) σ kp tr ((az_ex G 1003).2 (i + 1)) hS.1 hR1 hK.wf) (by decide) (Nat.le_refl _) (Nat.le_refl _) rfl (Nat.le_of_ble_eq_true rfl) (fun r S1 hp => ?_)
  obtain ⟨rfl, sg2, la2, rfl, hR2⟩ := hp
  show AW l G mL_law 2048 F bc bs 1737 [some (.ref 1003), some (.ref 0), some (.ref 60), some (.int (nI i))] [.int (q_seed σ ((az_ex G 1003).2 (i + 1))).1, .int (q_seed σ ((az_ex G 1003).2 (i + 1))).1] (sh, sg2, la2)
  refine A_icmp_eq (tgt := 1791) dL_law_1737 rfl (fun _ => ?_) (fun h => absurd rfl h)
  exact back sh sg2 la2 _ _ _ bc bs (LI_go hX hS hK1 hR2 hb)
set_option maxHeartbeats 1000000 in
set_option maxRecDepth 100000 in
theorem lc_53 (l : Launch) (G : az_Gh) (F : az_Fn) (bc bs i : Nat) (sh : List az_Sh) (sg : Nat → Nat → Int32) (la : Nat → Nat → Int64) (σ : SGM) (kp tr : Option Nat) (hL : (az_ex G 1003).1 < 2 ^ 31) (hi : i + 6 ≤ (az_ex G 1003).1) (hI : LI sh sg la σ kp tr bc bs) (back : ∀ (sh : List az_Sh) (sg : Nat → Nat → Int32) (la : Nat → Nat → Int64) (σ : SGM) (kp tr : Option Nat) (bc bs : Nat), LI sh sg la σ kp tr bc bs → AW l G mL_law 2048 F bc bs 1791 [some (.ref 1003), some (.ref 0), some (.ref 60), some (.int (nI i))] [] (sh, sg, la)) : AW l G mL_law 2048 F bc bs 1742 [some (.ref 1003), some (.ref 0), some (.ref 60), some (.int (nI i))] [] (sh, sg, la) := by
  obtain ⟨hX, hS, hK, hR, hb⟩ := hI
  refine A_aload_n dL_law_1742 rfl rfl ?_
  refine A_callV (n := 0) dL_law_1743 kvX7_image mlL_234 rfl (az_rc_obj clX7 (hX 0 _ rfl)) (x_image l G 2000 sh sg la (sg, la) σ hX hK) (by decide) (Nat.le_refl _) (Nat.le_refl _) rfl (Nat.le_of_ble_eq_true rfl) (fun r S1 hp => ?_)
  obtain ⟨rfl, sg1, la1, rfl, hK1⟩ := hp
  show AW l G mL_law 2048 F bc bs 1746 [some (.ref 1003), some (.ref 0), some (.ref 60), some (.int (nI i))] [.int (q_image σ).1] (sh, sg1, la1)
  have hR1 := hR.mv hK1
  refine A_aload_n dL_law_1746 rfl rfl ?_
  cases kp with
  | none =>
    have hb3 : 33 ≤ bc ∧ 1069 ≤ bs := by have e1 : bN none = 1 := rfl; rw [e1] at hb; omega
    refine A_callV (n := 0) (bc2 := bc - 33) (bs2 := bs - 1069) dL_law_1747 kvX8_image mlL_237 rfl (az_rc_obj clX8 (hS.1 0 _ rfl)) (y_image_0 l G 2000 sh sg1 la1 (sg1, la1) σ tr hS hR1 hK.wf) (by decide) (by omega) (by omega) rfl (Nat.le_of_ble_eq_true rfl) (fun r S1 hp => ?_)
    obtain ⟨rfl, sh', kp', tr', sg2, la2, rfl, hS2, he2, hR2, hor⟩ := hp
    show AW l G mL_law 2048 F (bc - 33) (bs - 1069) 1750 [some (.ref 1003), some (.ref 0), some (.ref 60), some (.int (nI i))] [.int (q_image σ).1, .int (q_image σ).1] (sh', sg2, la2)
    refine A_icmp_eq (tgt := 1791) dL_law_1750 rfl (fun _ => ?_) (fun h => absurd rfl h)
    exact back sh' sg2 la2 _ _ _ _ _ (LI_gn hX hS2 he2 hK1 hR2 hb (hor)).1
  | some k =>
    refine A_callV (n := 0) dL_law_1747 kvX8_image mlL_237 rfl (az_rc_obj clX8 (hS.1 0 _ rfl)) (y_image_k l G 2000 sh sg1 la1 (sg1, la1) σ k tr hS hR1 hK.wf) (by decide) (Nat.le_refl _) (Nat.le_refl _) rfl (Nat.le_of_ble_eq_true rfl) (fun r S1 hp => ?_)
    obtain ⟨rfl, sg2, la2, rfl, hR2⟩ := hp
    show AW l G mL_law 2048 F bc bs 1750 [some (.ref 1003), some (.ref 0), some (.ref 60), some (.int (nI i))] [.int (q_image σ).1, .int (q_image σ).1] (sh, sg2, la2)
    refine A_icmp_eq (tgt := 1791) dL_law_1750 rfl (fun _ => ?_) (fun h => absurd rfl h)
    exact back sh sg2 la2 _ _ _ bc bs (LI_go hX hS hK1 hR2 hb)
set_option maxHeartbeats 1000000 in
set_option maxRecDepth 100000 in
theorem lc_54 (l : Launch) (G : az_Gh) (F : az_Fn) (bc bs i : Nat) (sh : List az_Sh) (sg : Nat → Nat → Int32) (la : Nat → Nat → Int64) (σ : SGM) (kp tr : Option Nat) (hL : (az_ex G 1003).1 < 2 ^ 31) (hi : i + 6 ≤ (az_ex G 1003).1) (hI : LI sh sg la σ kp tr bc bs) (back : ∀ (sh : List az_Sh) (sg : Nat → Nat → Int32) (la : Nat → Nat → Int64) (σ : SGM) (kp tr : Option Nat) (bc bs : Nat), LI sh sg la σ kp tr bc bs → AW l G mL_law 2048 F bc bs 1791 [some (.ref 1003), some (.ref 0), some (.ref 60), some (.int (nI i))] [] (sh, sg, la)) : AW l G mL_law 2048 F bc bs 1755 [some (.ref 1003), some (.ref 0), some (.ref 60), some (.int (nI i))] [] (sh, sg, la) := by
  obtain ⟨hX, hS, hK, hR, hb⟩ := hI
  refine A_aload_n dL_law_1755 rfl rfl ?_
  refine A_callV (n := 0) dL_law_1756 kvX7_back mlL_238 rfl (az_rc_obj clX7 (hX 0 _ rfl)) (x_back l G 2000 sh sg la (sg, la) σ hX hK) (by decide) (Nat.le_refl _) (Nat.le_refl _) rfl (Nat.le_of_ble_eq_true rfl) (fun r S1 hp => ?_)
  obtain ⟨rfl, sg1, la1, rfl, hK1⟩ := hp
  show AW l G mL_law 2048 F bc bs 1759 [some (.ref 1003), some (.ref 0), some (.ref 60), some (.int (nI i))] [.int (q_back σ).1] (sh, sg1, la1)
  have hR1 := hR.mv hK1
  refine A_aload_n dL_law_1759 rfl rfl ?_
  cases kp with
  | none =>
    refine A_callV (n := 0) dL_law_1760 kvX8_back mlL_241 rfl (az_rc_obj clX8 (hS.1 0 _ rfl)) (y_back_0 l G 2000 sh sg1 la1 (sg1, la1) σ tr hS hR1) (by decide) (Nat.le_refl _) (Nat.le_refl _) rfl (Nat.le_of_ble_eq_true rfl) (fun r S1 hp => ?_)
    obtain ⟨rfl, sg2, la2, rfl, hR2⟩ := hp
    show AW l G mL_law 2048 F bc bs 1763 [some (.ref 1003), some (.ref 0), some (.ref 60), some (.int (nI i))] [.int (q_back σ).1, .int (q_back σ).1] (sh, sg2, la2)
    refine A_icmp_eq (tgt := 1791) dL_law_1763 rfl (fun _ => ?_) (fun h => absurd rfl h)
    exact back sh sg2 la2 _ _ _ bc bs (LI_go hX hS hK1 hR2 hb)
  | some k =>
    refine A_callV (n := 0) dL_law_1760 kvX8_back mlL_241 rfl (az_rc_obj clX8 (hS.1 0 _ rfl)) (y_back_k l G 2000 sh sg1 la1 (sg1, la1) σ k tr hS hR1 hK.wf) (by decide) (Nat.le_refl _) (Nat.le_refl _) rfl (Nat.le_of_ble_eq_true rfl) (fun r S1 hp => ?_)
    obtain ⟨rfl, sg2, la2, rfl, hR2⟩ := hp
    show AW l G mL_law 2048 F bc bs 1763 [some (.ref 1003), some (.ref 0), some (.ref 60), some (.int (nI i))] [.int (q_back σ).1, .int (q_back σ).1] (sh, sg2, la2)
    refine A_icmp_eq (tgt := 1791) dL_law_1763 rfl (fun _ => ?_) (fun h => absurd rfl h)
    exact back sh sg2 la2 _ _ _ bc bs (LI_go hX hS hK1 hR2 hb)
set_option maxHeartbeats 1000000 in
set_option maxRecDepth 100000 in
theorem lc_55 (l : Launch) (G : az_Gh) (F : az_Fn) (bc bs i : Nat) (sh : List az_Sh) (sg : Nat → Nat → Int32) (la : Nat → Nat → Int64) (σ : SGM) (kp tr : Option Nat) (hL : (az_ex G 1003).1 < 2 ^ 31) (hi : i + 6 ≤ (az_ex G 1003).1) (hI : LI sh sg la σ kp tr bc bs) (back : ∀ (sh : List az_Sh) (sg : Nat → Nat → Int32) (la : Nat → Nat → Int64) (σ : SGM) (kp tr : Option Nat) (bc bs : Nat), LI sh sg la σ kp tr bc bs → AW l G mL_law 2048 F bc bs 1791 [some (.ref 1003), some (.ref 0), some (.ref 60), some (.int (nI i))] [] (sh, sg, la)) : AW l G mL_law 2048 F bc bs 1768 [some (.ref 1003), some (.ref 0), some (.ref 60), some (.int (nI i))] [] (sh, sg, la) := by
  obtain ⟨hX, hS, hK, hR, hb⟩ := hI
  refine A_aload_n dL_law_1768 rfl rfl ?_
  refine A_aload_n dL_law_1769 rfl rfl ?_
  refine A_iload_n dL_law_1770 rfl rfl ?_
  refine A_iconst (v := 1) dL_law_1771 (by decide) ?_
  refine A_iadd dL_law_1772 ?_
  refine A_eald (k := 1003) (i := i + 1) dL_law_1773 (by decide) (by decide) (by omega) hL (nI_add i 1) ?_
  refine A_callV (n := 0) dL_law_1774 kvX7_status mlL_242 rfl (az_rc_obj clX7 (hX 0 _ rfl)) (x_status l G 2000 sh sg la (sg, la) σ ((az_ex G 1003).2 (i + 1)) hX hK) (by decide) (Nat.le_refl _) (Nat.le_refl _) rfl (Nat.le_of_ble_eq_true rfl) (fun r S1 hp => ?_)
  obtain ⟨rfl, sg1, la1, rfl, hK1⟩ := hp
  show AW l G mL_law 2048 F bc bs 1777 [some (.ref 1003), some (.ref 0), some (.ref 60), some (.int (nI i))] [.int (q_status σ ((az_ex G 1003).2 (i + 1)))] (sh, sg1, la1)
  have hR1 := hR.mv hK1
  refine A_aload_n dL_law_1777 rfl rfl ?_
  refine A_aload_n dL_law_1778 rfl rfl ?_
  refine A_iload_n dL_law_1779 rfl rfl ?_
  refine A_iconst (v := 1) dL_law_1780 (by decide) ?_
  refine A_iadd dL_law_1781 ?_
  refine A_eald (k := 1003) (i := i + 1) dL_law_1782 (by decide) (by decide) (by omega) hL (nI_add i 1) ?_
  refine A_callV (n := 0) dL_law_1783 kvX8_status mlL_245 rfl (az_rc_obj clX8 (hS.1 0 _ rfl)) (y_status l G 2000 sh sg1 la1 (sg1, la1) σ kp tr ((az_ex G 1003).2 (i + 1)) hS.1 hR1 hK.wf) (by decide) (Nat.le_refl _) (Nat.le_refl _) rfl (Nat.le_of_ble_eq_true rfl) (fun r S1 hp => ?_)
  obtain ⟨rfl, sg2, la2, rfl, hR2⟩ := hp
  show AW l G mL_law 2048 F bc bs 1786 [some (.ref 1003), some (.ref 0), some (.ref 60), some (.int (nI i))] [.int (q_status σ ((az_ex G 1003).2 (i + 1))), .int (q_status σ ((az_ex G 1003).2 (i + 1)))] (sh, sg2, la2)
  refine A_icmp_eq (tgt := 1791) dL_law_1786 rfl (fun _ => ?_) (fun h => absurd rfl h)
  exact back sh sg2 la2 _ _ _ bc bs (LI_go hX hS hK1 hR2 hb)
