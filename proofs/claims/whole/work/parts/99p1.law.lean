set_option maxHeartbeats 1000000 in
set_option maxRecDepth 100000 in
theorem lc_14 (l : Launch) (G : az_Gh) (F : az_Fn) (bc bs i : Nat) (sh : List az_Sh) (sg : Nat → Nat → Int32) (la : Nat → Nat → Int64) (σ : SGM) (kp tr : Option Nat) (hL : (az_ex G 1003).1 < 2 ^ 31) (hi : i + 6 ≤ (az_ex G 1003).1) (hI : LI sh sg la σ kp tr bc bs) (back : ∀ (sh : List az_Sh) (sg : Nat → Nat → Int32) (la : Nat → Nat → Int64) (σ : SGM) (kp tr : Option Nat) (bc bs : Nat), LI sh sg la σ kp tr bc bs → AW l G mL_law 2048 F bc bs 1791 [some (.ref 1003), some (.ref 0), some (.ref 60), some (.int (nI i))] [] (sh, sg, la)) : AW l G mL_law 2048 F bc bs 755 [some (.ref 1003), some (.ref 0), some (.ref 60), some (.int (nI i))] [] (sh, sg, la) := by
  obtain ⟨hX, hS, hK, hR, hb⟩ := hI
  refine A_aload_n dL_law_755 rfl rfl ?_
  refine A_aload_n dL_law_756 rfl rfl ?_
  refine A_iload_n dL_law_757 rfl rfl ?_
  refine A_iconst (v := 1) dL_law_758 (by decide) ?_
  refine A_iadd dL_law_759 ?_
  refine A_eald (k := 1003) (i := i + 1) dL_law_760 (by decide) (by decide) (by omega) hL (nI_add i 1) ?_
  refine A_aload_n dL_law_761 rfl rfl ?_
  refine A_iload_n dL_law_762 rfl rfl ?_
  refine A_iconst (v := 2) dL_law_763 (by decide) ?_
  refine A_iadd dL_law_764 ?_
  refine A_eald (k := 1003) (i := i + 2) dL_law_765 (by decide) (by decide) (by omega) hL (nI_add i 2) ?_
  refine A_callV (n := 0) dL_law_766 kvX7_personOf mlL_78 rfl (az_rc_obj clX7 (hX 0 _ rfl)) (x_personOf l G 2000 sh sg la (sg, la) σ ((az_ex G 1003).2 (i + 1)) ((az_ex G 1003).2 (i + 2)) hX hK) (by decide) (Nat.le_refl _) (Nat.le_refl _) rfl (Nat.le_of_ble_eq_true rfl) (fun r S1 hp => ?_)
  obtain ⟨rfl, sg1, la1, rfl, hK1⟩ := hp
  show AW l G mL_law 2048 F bc bs 769 [some (.ref 1003), some (.ref 0), some (.ref 60), some (.int (nI i))] [.int (q_personOf σ ((az_ex G 1003).2 (i + 1)) ((az_ex G 1003).2 (i + 2))).1] (sh, sg1, la1)
  have hR1 := hR.mv hK1
  refine A_aload_n dL_law_769 rfl rfl ?_
  refine A_aload_n dL_law_770 rfl rfl ?_
  refine A_iload_n dL_law_771 rfl rfl ?_
  refine A_iconst (v := 1) dL_law_772 (by decide) ?_
  refine A_iadd dL_law_773 ?_
  refine A_eald (k := 1003) (i := i + 1) dL_law_774 (by decide) (by decide) (by omega) hL (nI_add i 1) ?_
  refine A_aload_n dL_law_775 rfl rfl ?_
  refine A_iload_n dL_law_776 rfl rfl ?_
  refine A_iconst (v := 2) dL_law_777 (by decide) ?_
  refine A_iadd dL_law_778 ?_
  refine A_eald (k := 1003) (i := i + 2) dL_law_779 (by decide) (by decide) (by omega) hL (nI_add i 2) ?_
  refine A_callV (n := 0) dL_law_780 kvX8_personOf mlL_81 rfl (az_rc_obj clX8 (hS.1 0 _ rfl)) (y_personOf l G 2000 sh sg1 la1 (sg1, la1) σ kp tr ((az_ex G 1003).2 (i + 1)) ((az_ex G 1003).2 (i + 2)) hS.1 hR1 hK.wf) (by decide) (Nat.le_refl _) (Nat.le_refl _) rfl (Nat.le_of_ble_eq_true rfl) (fun r S1 hp => ?_)
  obtain ⟨rfl, sg2, la2, rfl, hR2⟩ := hp
  show AW l G mL_law 2048 F bc bs 783 [some (.ref 1003), some (.ref 0), some (.ref 60), some (.int (nI i))] [.int (q_personOf σ ((az_ex G 1003).2 (i + 1)) ((az_ex G 1003).2 (i + 2))).1, .int (q_personOf σ ((az_ex G 1003).2 (i + 1)) ((az_ex G 1003).2 (i + 2))).1] (sh, sg2, la2)
  refine A_icmp_eq (tgt := 1791) dL_law_783 rfl (fun _ => ?_) (fun h => absurd rfl h)
  exact back sh sg2 la2 _ _ _ bc bs (LI_go hX hS hK1 hR2 hb)
set_option maxHeartbeats 1000000 in
set_option maxRecDepth 100000 in
theorem lc_15 (l : Launch) (G : az_Gh) (F : az_Fn) (bc bs i : Nat) (sh : List az_Sh) (sg : Nat → Nat → Int32) (la : Nat → Nat → Int64) (σ : SGM) (kp tr : Option Nat) (hL : (az_ex G 1003).1 < 2 ^ 31) (hi : i + 6 ≤ (az_ex G 1003).1) (hI : LI sh sg la σ kp tr bc bs) (back : ∀ (sh : List az_Sh) (sg : Nat → Nat → Int32) (la : Nat → Nat → Int64) (σ : SGM) (kp tr : Option Nat) (bc bs : Nat), LI sh sg la σ kp tr bc bs → AW l G mL_law 2048 F bc bs 1791 [some (.ref 1003), some (.ref 0), some (.ref 60), some (.int (nI i))] [] (sh, sg, la)) : AW l G mL_law 2048 F bc bs 788 [some (.ref 1003), some (.ref 0), some (.ref 60), some (.int (nI i))] [] (sh, sg, la) := by
  obtain ⟨hX, hS, hK, hR, hb⟩ := hI
  refine A_aload_n dL_law_788 rfl rfl ?_
  refine A_aload_n dL_law_789 rfl rfl ?_
  refine A_iload_n dL_law_790 rfl rfl ?_
  refine A_iconst (v := 1) dL_law_791 (by decide) ?_
  refine A_iadd dL_law_792 ?_
  refine A_eald (k := 1003) (i := i + 1) dL_law_793 (by decide) (by decide) (by omega) hL (nI_add i 1) ?_
  refine A_callV (n := 0) dL_law_794 kvX7_speaks mlL_82 rfl (az_rc_obj clX7 (hX 0 _ rfl)) (x_speaks l G 2000 sh sg la (sg, la) σ ((az_ex G 1003).2 (i + 1)) hX hK) (by decide) (Nat.le_refl _) (Nat.le_refl _) rfl (Nat.le_of_ble_eq_true rfl) (fun r S1 hp => ?_)
  obtain ⟨rfl, sg1, la1, rfl, hK1⟩ := hp
  show AW l G mL_law 2048 F bc bs 797 [some (.ref 1003), some (.ref 0), some (.ref 60), some (.int (nI i))] [.int (q_speaks σ ((az_ex G 1003).2 (i + 1))).1] (sh, sg1, la1)
  have hR1 := hR.mv hK1
  refine A_aload_n dL_law_797 rfl rfl ?_
  refine A_aload_n dL_law_798 rfl rfl ?_
  refine A_iload_n dL_law_799 rfl rfl ?_
  refine A_iconst (v := 1) dL_law_800 (by decide) ?_
  refine A_iadd dL_law_801 ?_
  refine A_eald (k := 1003) (i := i + 1) dL_law_802 (by decide) (by decide) (by omega) hL (nI_add i 1) ?_
  refine A_callV (n := 0) dL_law_803 kvX8_speaks mlL_85 rfl (az_rc_obj clX8 (hS.1 0 _ rfl)) (y_speaks l G 2000 sh sg1 la1 (sg1, la1) σ kp tr ((az_ex G 1003).2 (i + 1)) hS.1 hR1 hK.wf) (by decide) (Nat.le_refl _) (Nat.le_refl _) rfl (Nat.le_of_ble_eq_true rfl) (fun r S1 hp => ?_)
  obtain ⟨rfl, sg2, la2, rfl, hR2⟩ := hp
  show AW l G mL_law 2048 F bc bs 806 [some (.ref 1003), some (.ref 0), some (.ref 60), some (.int (nI i))] [.int (q_speaks σ ((az_ex G 1003).2 (i + 1))).1, .int (q_speaks σ ((az_ex G 1003).2 (i + 1))).1] (sh, sg2, la2)
  refine A_icmp_eq (tgt := 1791) dL_law_806 rfl (fun _ => ?_) (fun h => absurd rfl h)
  exact back sh sg2 la2 _ _ _ bc bs (LI_go hX hS hK1 hR2 hb)
set_option maxHeartbeats 1000000 in
set_option maxRecDepth 100000 in
theorem lc_16 (l : Launch) (G : az_Gh) (F : az_Fn) (bc bs i : Nat) (sh : List az_Sh) (sg : Nat → Nat → Int32) (la : Nat → Nat → Int64) (σ : SGM) (kp tr : Option Nat) (hL : (az_ex G 1003).1 < 2 ^ 31) (hi : i + 6 ≤ (az_ex G 1003).1) (hI : LI sh sg la σ kp tr bc bs) (back : ∀ (sh : List az_Sh) (sg : Nat → Nat → Int32) (la : Nat → Nat → Int64) (σ : SGM) (kp tr : Option Nat) (bc bs : Nat), LI sh sg la σ kp tr bc bs → AW l G mL_law 2048 F bc bs 1791 [some (.ref 1003), some (.ref 0), some (.ref 60), some (.int (nI i))] [] (sh, sg, la)) : AW l G mL_law 2048 F bc bs 811 [some (.ref 1003), some (.ref 0), some (.ref 60), some (.int (nI i))] [] (sh, sg, la) := by
  obtain ⟨hX, hS, hK, hR, hb⟩ := hI
  refine A_aload_n dL_law_811 rfl rfl ?_
  refine A_callV (n := 0) dL_law_812 kvX7_coldest mlL_86 rfl (az_rc_obj clX7 (hX 0 _ rfl)) (x_coldest l G 2000 sh sg la (sg, la) σ hX hK) (by decide) (Nat.le_refl _) (Nat.le_refl _) rfl (Nat.le_of_ble_eq_true rfl) (fun r S1 hp => ?_)
  obtain ⟨rfl, sg1, la1, rfl, hK1⟩ := hp
  show AW l G mL_law 2048 F bc bs 815 [some (.ref 1003), some (.ref 0), some (.ref 60), some (.int (nI i))] [.int (q_coldest σ)] (sh, sg1, la1)
  have hR1 := hR.mv hK1
  refine A_aload_n dL_law_815 rfl rfl ?_
  refine A_callV (n := 0) dL_law_816 kvX8_coldest mlL_89 rfl (az_rc_obj clX8 (hS.1 0 _ rfl)) (y_coldest l G 2000 sh sg1 la1 (sg1, la1) σ kp tr hS.1 hR1 hK.wf) (by decide) (Nat.le_refl _) (Nat.le_refl _) rfl (Nat.le_of_ble_eq_true rfl) (fun r S1 hp => ?_)
  obtain ⟨rfl, sg2, la2, rfl, hR2⟩ := hp
  show AW l G mL_law 2048 F bc bs 819 [some (.ref 1003), some (.ref 0), some (.ref 60), some (.int (nI i))] [.int (q_coldest σ), .int (q_coldest σ)] (sh, sg2, la2)
  refine A_icmp_eq (tgt := 1791) dL_law_819 rfl (fun _ => ?_) (fun h => absurd rfl h)
  exact back sh sg2 la2 _ _ _ bc bs (LI_go hX hS hK1 hR2 hb)
set_option maxHeartbeats 1000000 in
set_option maxRecDepth 100000 in
theorem lc_17 (l : Launch) (G : az_Gh) (F : az_Fn) (bc bs i : Nat) (sh : List az_Sh) (sg : Nat → Nat → Int32) (la : Nat → Nat → Int64) (σ : SGM) (kp tr : Option Nat) (hL : (az_ex G 1003).1 < 2 ^ 31) (hi : i + 6 ≤ (az_ex G 1003).1) (hI : LI sh sg la σ kp tr bc bs) (back : ∀ (sh : List az_Sh) (sg : Nat → Nat → Int32) (la : Nat → Nat → Int64) (σ : SGM) (kp tr : Option Nat) (bc bs : Nat), LI sh sg la σ kp tr bc bs → AW l G mL_law 2048 F bc bs 1791 [some (.ref 1003), some (.ref 0), some (.ref 60), some (.int (nI i))] [] (sh, sg, la)) : AW l G mL_law 2048 F bc bs 824 [some (.ref 1003), some (.ref 0), some (.ref 60), some (.int (nI i))] [] (sh, sg, la) := by
  obtain ⟨hX, hS, hK, hR, hb⟩ := hI
  refine A_aload_n dL_law_824 rfl rfl ?_
  refine A_callV (n := 0) dL_law_825 kvX7_speaking mlL_90 rfl (az_rc_obj clX7 (hX 0 _ rfl)) (x_speaking l G 2000 sh sg la (sg, la) σ hX hK) (by decide) (Nat.le_refl _) (Nat.le_refl _) rfl (Nat.le_of_ble_eq_true rfl) (fun r S1 hp => ?_)
  obtain ⟨rfl, sg1, la1, rfl, hK1⟩ := hp
  show AW l G mL_law 2048 F bc bs 828 [some (.ref 1003), some (.ref 0), some (.ref 60), some (.int (nI i))] [.int (q_speaking σ)] (sh, sg1, la1)
  have hR1 := hR.mv hK1
  refine A_aload_n dL_law_828 rfl rfl ?_
  refine A_callV (n := 0) dL_law_829 kvX8_speaking mlL_93 rfl (az_rc_obj clX8 (hS.1 0 _ rfl)) (y_speaking l G 2000 sh sg1 la1 (sg1, la1) σ kp tr hS.1 hR1 hK.wf) (by decide) (Nat.le_refl _) (Nat.le_refl _) rfl (Nat.le_of_ble_eq_true rfl) (fun r S1 hp => ?_)
  obtain ⟨rfl, sg2, la2, rfl, hR2⟩ := hp
  show AW l G mL_law 2048 F bc bs 832 [some (.ref 1003), some (.ref 0), some (.ref 60), some (.int (nI i))] [.int (q_speaking σ), .int (q_speaking σ)] (sh, sg2, la2)
  refine A_icmp_eq (tgt := 1791) dL_law_832 rfl (fun _ => ?_) (fun h => absurd rfl h)
  exact back sh sg2 la2 _ _ _ bc bs (LI_go hX hS hK1 hR2 hb)
set_option maxHeartbeats 1000000 in
set_option maxRecDepth 100000 in
theorem lc_18 (l : Launch) (G : az_Gh) (F : az_Fn) (bc bs i : Nat) (sh : List az_Sh) (sg : Nat → Nat → Int32) (la : Nat → Nat → Int64) (σ : SGM) (kp tr : Option Nat) (hL : (az_ex G 1003).1 < 2 ^ 31) (hi : i + 6 ≤ (az_ex G 1003).1) (hI : LI sh sg la σ kp tr bc bs) (back : ∀ (sh : List az_Sh) (sg : Nat → Nat → Int32) (la : Nat → Nat → Int64) (σ : SGM) (kp tr : Option Nat) (bc bs : Nat), LI sh sg la σ kp tr bc bs → AW l G mL_law 2048 F bc bs 1791 [some (.ref 1003), some (.ref 0), some (.ref 60), some (.int (nI i))] [] (sh, sg, la)) : AW l G mL_law 2048 F bc bs 837 [some (.ref 1003), some (.ref 0), some (.ref 60), some (.int (nI i))] [] (sh, sg, la) := by
  obtain ⟨hX, hS, hK, hR, hb⟩ := hI
  refine A_aload_n dL_law_837 rfl rfl ?_
  refine A_callV (n := 0) dL_law_838 kvX7_isSo mlL_94 rfl (az_rc_obj clX7 (hX 0 _ rfl)) (x_isSo l G 2000 sh sg la (sg, la) σ hX hK) (by decide) (Nat.le_refl _) (Nat.le_refl _) rfl (Nat.le_of_ble_eq_true rfl) (fun r S1 hp => ?_)
  obtain ⟨rfl, sg1, la1, rfl, hK1⟩ := hp
  show AW l G mL_law 2048 F bc bs 841 [some (.ref 1003), some (.ref 0), some (.ref 60), some (.int (nI i))] [.int (q_isSo σ)] (sh, sg1, la1)
  have hR1 := hR.mv hK1
  refine A_aload_n dL_law_841 rfl rfl ?_
  refine A_callV (n := 0) dL_law_842 kvX8_isSo mlL_97 rfl (az_rc_obj clX8 (hS.1 0 _ rfl)) (y_isSo l G 2000 sh sg1 la1 (sg1, la1) σ kp tr hS.1 hR1 hK.wf) (by decide) (Nat.le_refl _) (Nat.le_refl _) rfl (Nat.le_of_ble_eq_true rfl) (fun r S1 hp => ?_)
  obtain ⟨rfl, sg2, la2, rfl, hR2⟩ := hp
  show AW l G mL_law 2048 F bc bs 845 [some (.ref 1003), some (.ref 0), some (.ref 60), some (.int (nI i))] [.int (q_isSo σ), .int (q_isSo σ)] (sh, sg2, la2)
  refine A_icmp_eq (tgt := 1791) dL_law_845 rfl (fun _ => ?_) (fun h => absurd rfl h)
  exact back sh sg2 la2 _ _ _ bc bs (LI_go hX hS hK1 hR2 hb)
set_option maxHeartbeats 1000000 in
set_option maxRecDepth 100000 in
theorem lc_19 (l : Launch) (G : az_Gh) (F : az_Fn) (bc bs i : Nat) (sh : List az_Sh) (sg : Nat → Nat → Int32) (la : Nat → Nat → Int64) (σ : SGM) (kp tr : Option Nat) (hL : (az_ex G 1003).1 < 2 ^ 31) (hi : i + 6 ≤ (az_ex G 1003).1) (hI : LI sh sg la σ kp tr bc bs) (back : ∀ (sh : List az_Sh) (sg : Nat → Nat → Int32) (la : Nat → Nat → Int64) (σ : SGM) (kp tr : Option Nat) (bc bs : Nat), LI sh sg la σ kp tr bc bs → AW l G mL_law 2048 F bc bs 1791 [some (.ref 1003), some (.ref 0), some (.ref 60), some (.int (nI i))] [] (sh, sg, la)) : AW l G mL_law 2048 F bc bs 850 [some (.ref 1003), some (.ref 0), some (.ref 60), some (.int (nI i))] [] (sh, sg, la) := by
  obtain ⟨hX, hS, hK, hR, hb⟩ := hI
  refine A_aload_n dL_law_850 rfl rfl ?_
  refine A_aload_n dL_law_851 rfl rfl ?_
  refine A_iload_n dL_law_852 rfl rfl ?_
  refine A_iconst (v := 1) dL_law_853 (by decide) ?_
  refine A_iadd dL_law_854 ?_
  refine A_eald (k := 1003) (i := i + 1) dL_law_855 (by decide) (by decide) (by omega) hL (nI_add i 1) ?_
  refine A_callV (n := 0) dL_law_856 kvX7_rank mlL_98 rfl (az_rc_obj clX7 (hX 0 _ rfl)) (x_rank l G 2000 sh sg la (sg, la) σ ((az_ex G 1003).2 (i + 1)) hX hK) (by decide) (Nat.le_refl _) (Nat.le_refl _) rfl (Nat.le_of_ble_eq_true rfl) (fun r S1 hp => ?_)
  obtain ⟨rfl, sg1, la1, rfl, hK1⟩ := hp
  show AW l G mL_law 2048 F bc bs 859 [some (.ref 1003), some (.ref 0), some (.ref 60), some (.int (nI i))] [.int (q_rank σ ((az_ex G 1003).2 (i + 1))).1] (sh, sg1, la1)
  have hR1 := hR.mv hK1
  refine A_aload_n dL_law_859 rfl rfl ?_
  refine A_aload_n dL_law_860 rfl rfl ?_
  refine A_iload_n dL_law_861 rfl rfl ?_
  refine A_iconst (v := 1) dL_law_862 (by decide) ?_
  refine A_iadd dL_law_863 ?_
  refine A_eald (k := 1003) (i := i + 1) dL_law_864 (by decide) (by decide) (by omega) hL (nI_add i 1) ?_
  refine A_callV (n := 0) dL_law_865 kvX8_rank mlL_101 rfl (az_rc_obj clX8 (hS.1 0 _ rfl)) (y_rank l G 2000 sh sg1 la1 (sg1, la1) σ kp tr ((az_ex G 1003).2 (i + 1)) hS.1 hR1 hK.wf) (by decide) (Nat.le_refl _) (Nat.le_refl _) rfl (Nat.le_of_ble_eq_true rfl) (fun r S1 hp => ?_)
  obtain ⟨rfl, sg2, la2, rfl, hR2⟩ := hp
  show AW l G mL_law 2048 F bc bs 868 [some (.ref 1003), some (.ref 0), some (.ref 60), some (.int (nI i))] [.int (q_rank σ ((az_ex G 1003).2 (i + 1))).1, .int (q_rank σ ((az_ex G 1003).2 (i + 1))).1] (sh, sg2, la2)
  refine A_icmp_eq (tgt := 1791) dL_law_868 rfl (fun _ => ?_) (fun h => absurd rfl h)
  exact back sh sg2 la2 _ _ _ bc bs (LI_go hX hS hK1 hR2 hb)
set_option maxHeartbeats 1000000 in
set_option maxRecDepth 100000 in
theorem lc_20 (l : Launch) (G : az_Gh) (F : az_Fn) (bc bs i : Nat) (sh : List az_Sh) (sg : Nat → Nat → Int32) (la : Nat → Nat → Int64) (σ : SGM) (kp tr : Option Nat) (hL : (az_ex G 1003).1 < 2 ^ 31) (hi : i + 6 ≤ (az_ex G 1003).1) (hI : LI sh sg la σ kp tr bc bs) (back : ∀ (sh : List az_Sh) (sg : Nat → Nat → Int32) (la : Nat → Nat → Int64) (σ : SGM) (kp tr : Option Nat) (bc bs : Nat), LI sh sg la σ kp tr bc bs → AW l G mL_law 2048 F bc bs 1791 [some (.ref 1003), some (.ref 0), some (.ref 60), some (.int (nI i))] [] (sh, sg, la)) : AW l G mL_law 2048 F bc bs 873 [some (.ref 1003), some (.ref 0), some (.ref 60), some (.int (nI i))] [] (sh, sg, la) := by
  obtain ⟨hX, hS, hK, hR, hb⟩ := hI
  refine A_aload_n dL_law_873 rfl rfl ?_
  refine A_aload_n dL_law_874 rfl rfl ?_
  refine A_iload_n dL_law_875 rfl rfl ?_
  refine A_iconst (v := 1) dL_law_876 (by decide) ?_
  refine A_iadd dL_law_877 ?_
  refine A_eald (k := 1003) (i := i + 1) dL_law_878 (by decide) (by decide) (by omega) hL (nI_add i 1) ?_
  refine A_callV (n := 0) dL_law_879 kvX7_when mlL_102 rfl (az_rc_obj clX7 (hX 0 _ rfl)) (x_when l G 2000 sh sg la (sg, la) σ ((az_ex G 1003).2 (i + 1)) hX hK) (by decide) (Nat.le_refl _) (Nat.le_refl _) rfl (Nat.le_of_ble_eq_true rfl) (fun r S1 hp => ?_)
  obtain ⟨rfl, sg1, la1, rfl, hK1⟩ := hp
  show AW l G mL_law 2048 F bc bs 882 [some (.ref 1003), some (.ref 0), some (.ref 60), some (.int (nI i))] [.int (q_when σ ((az_ex G 1003).2 (i + 1))).1] (sh, sg1, la1)
  have hR1 := hR.mv hK1
  refine A_aload_n dL_law_882 rfl rfl ?_
  refine A_aload_n dL_law_883 rfl rfl ?_
  refine A_iload_n dL_law_884 rfl rfl ?_
  refine A_iconst (v := 1) dL_law_885 (by decide) ?_
  refine A_iadd dL_law_886 ?_
  refine A_eald (k := 1003) (i := i + 1) dL_law_887 (by decide) (by decide) (by omega) hL (nI_add i 1) ?_
  refine A_callV (n := 0) dL_law_888 kvX8_when mlL_105 rfl (az_rc_obj clX8 (hS.1 0 _ rfl)) (y_when l G 2000 sh sg1 la1 (sg1, la1) σ kp tr ((az_ex G 1003).2 (i + 1)) hS.1 hR1 hK.wf) (by decide) (Nat.le_refl _) (Nat.le_refl _) rfl (Nat.le_of_ble_eq_true rfl) (fun r S1 hp => ?_)
  obtain ⟨rfl, sg2, la2, rfl, hR2⟩ := hp
  show AW l G mL_law 2048 F bc bs 891 [some (.ref 1003), some (.ref 0), some (.ref 60), some (.int (nI i))] [.int (q_when σ ((az_ex G 1003).2 (i + 1))).1, .int (q_when σ ((az_ex G 1003).2 (i + 1))).1] (sh, sg2, la2)
  refine A_icmp_eq (tgt := 1791) dL_law_891 rfl (fun _ => ?_) (fun h => absurd rfl h)
  exact back sh sg2 la2 _ _ _ bc bs (LI_go hX hS hK1 hR2 hb)
set_option maxHeartbeats 1000000 in
set_option maxRecDepth 100000 in
theorem lc_21 (l : Launch) (G : az_Gh) (F : az_Fn) (bc bs i : Nat) (sh : List az_Sh) (sg : Nat → Nat → Int32) (la : Nat → Nat → Int64) (σ : SGM) (kp tr : Option Nat) (hL : (az_ex G 1003).1 < 2 ^ 31) (hi : i + 6 ≤ (az_ex G 1003).1) (hI : LI sh sg la σ kp tr bc bs) (back : ∀ (sh : List az_Sh) (sg : Nat → Nat → Int32) (la : Nat → Nat → Int64) (σ : SGM) (kp tr : Option Nat) (bc bs : Nat), LI sh sg la σ kp tr bc bs → AW l G mL_law 2048 F bc bs 1791 [some (.ref 1003), some (.ref 0), some (.ref 60), some (.int (nI i))] [] (sh, sg, la)) : AW l G mL_law 2048 F bc bs 896 [some (.ref 1003), some (.ref 0), some (.ref 60), some (.int (nI i))] [] (sh, sg, la) := by
  obtain ⟨hX, hS, hK, hR, hb⟩ := hI
  refine A_aload_n dL_law_896 rfl rfl ?_
  refine A_aload_n dL_law_897 rfl rfl ?_
  refine A_iload_n dL_law_898 rfl rfl ?_
  refine A_iconst (v := 1) dL_law_899 (by decide) ?_
  refine A_iadd dL_law_900 ?_
  refine A_eald (k := 1003) (i := i + 1) dL_law_901 (by decide) (by decide) (by omega) hL (nI_add i 1) ?_
  refine A_aload_n dL_law_902 rfl rfl ?_
  refine A_iload_n dL_law_903 rfl rfl ?_
  refine A_iconst (v := 2) dL_law_904 (by decide) ?_
  refine A_iadd dL_law_905 ?_
  refine A_eald (k := 1003) (i := i + 2) dL_law_906 (by decide) (by decide) (by omega) hL (nI_add i 2) ?_
  refine A_callV (n := 0) dL_law_907 kvX7_ahead mlL_106 rfl (az_rc_obj clX7 (hX 0 _ rfl)) (x_ahead l G 2000 sh sg la (sg, la) σ ((az_ex G 1003).2 (i + 1)) ((az_ex G 1003).2 (i + 2)) hX hK) (by decide) (Nat.le_refl _) (Nat.le_refl _) rfl (Nat.le_of_ble_eq_true rfl) (fun r S1 hp => ?_)
  obtain ⟨rfl, sg1, la1, rfl, hK1⟩ := hp
  show AW l G mL_law 2048 F bc bs 910 [some (.ref 1003), some (.ref 0), some (.ref 60), some (.int (nI i))] [.int (q_ahead σ ((az_ex G 1003).2 (i + 1)) ((az_ex G 1003).2 (i + 2))).1] (sh, sg1, la1)
  have hR1 := hR.mv hK1
  refine A_aload_n dL_law_910 rfl rfl ?_
  refine A_aload_n dL_law_911 rfl rfl ?_
  refine A_iload_n dL_law_912 rfl rfl ?_
  refine A_iconst (v := 1) dL_law_913 (by decide) ?_
  refine A_iadd dL_law_914 ?_
  refine A_eald (k := 1003) (i := i + 1) dL_law_915 (by decide) (by decide) (by omega) hL (nI_add i 1) ?_
  refine A_aload_n dL_law_916 rfl rfl ?_
  refine A_iload_n dL_law_917 rfl rfl ?_
  refine A_iconst (v := 2) dL_law_918 (by decide) ?_
  refine A_iadd dL_law_919 ?_
  refine A_eald (k := 1003) (i := i + 2) dL_law_920 (by decide) (by decide) (by omega) hL (nI_add i 2) ?_
  refine A_callV (n := 0) dL_law_921 kvX8_ahead mlL_109 rfl (az_rc_obj clX8 (hS.1 0 _ rfl)) (y_ahead l G 2000 sh sg1 la1 (sg1, la1) σ kp tr ((az_ex G 1003).2 (i + 1)) ((az_ex G 1003).2 (i + 2)) hS.1 hR1 hK.wf) (by decide) (Nat.le_refl _) (Nat.le_refl _) rfl (Nat.le_of_ble_eq_true rfl) (fun r S1 hp => ?_)
  obtain ⟨rfl, sg2, la2, rfl, hR2⟩ := hp
  show AW l G mL_law 2048 F bc bs 924 [some (.ref 1003), some (.ref 0), some (.ref 60), some (.int (nI i))] [.int (q_ahead σ ((az_ex G 1003).2 (i + 1)) ((az_ex G 1003).2 (i + 2))).1, .int (q_ahead σ ((az_ex G 1003).2 (i + 1)) ((az_ex G 1003).2 (i + 2))).1] (sh, sg2, la2)
  refine A_icmp_eq (tgt := 1791) dL_law_924 rfl (fun _ => ?_) (fun h => absurd rfl h)
  exact back sh sg2 la2 _ _ _ bc bs (LI_go hX hS hK1 hR2 hb)
set_option maxHeartbeats 1000000 in
set_option maxRecDepth 100000 in
theorem lc_22 (l : Launch) (G : az_Gh) (F : az_Fn) (bc bs i : Nat) (sh : List az_Sh) (sg : Nat → Nat → Int32) (la : Nat → Nat → Int64) (σ : SGM) (kp tr : Option Nat) (hL : (az_ex G 1003).1 < 2 ^ 31) (hi : i + 6 ≤ (az_ex G 1003).1) (hI : LI sh sg la σ kp tr bc bs) (back : ∀ (sh : List az_Sh) (sg : Nat → Nat → Int32) (la : Nat → Nat → Int64) (σ : SGM) (kp tr : Option Nat) (bc bs : Nat), LI sh sg la σ kp tr bc bs → AW l G mL_law 2048 F bc bs 1791 [some (.ref 1003), some (.ref 0), some (.ref 60), some (.int (nI i))] [] (sh, sg, la)) : AW l G mL_law 2048 F bc bs 929 [some (.ref 1003), some (.ref 0), some (.ref 60), some (.int (nI i))] [] (sh, sg, la) := by
  obtain ⟨hX, hS, hK, hR, hb⟩ := hI
  refine A_aload_n dL_law_929 rfl rfl ?_
  refine A_aload_n dL_law_930 rfl rfl ?_
  refine A_iload_n dL_law_931 rfl rfl ?_
  refine A_iconst (v := 1) dL_law_932 (by decide) ?_
  refine A_iadd dL_law_933 ?_
  refine A_eald (k := 1003) (i := i + 1) dL_law_934 (by decide) (by decide) (by omega) hL (nI_add i 1) ?_
  refine A_aload_n dL_law_935 rfl rfl ?_
  refine A_iload_n dL_law_936 rfl rfl ?_
  refine A_iconst (v := 2) dL_law_937 (by decide) ?_
  refine A_iadd dL_law_938 ?_
  refine A_eald (k := 1003) (i := i + 2) dL_law_939 (by decide) (by decide) (by omega) hL (nI_add i 2) ?_
  refine A_callV (n := 0) dL_law_940 kvX7_later mlL_110 rfl (az_rc_obj clX7 (hX 0 _ rfl)) (x_later l G 2000 sh sg la (sg, la) σ ((az_ex G 1003).2 (i + 1)) ((az_ex G 1003).2 (i + 2)) hX hK) (by decide) (Nat.le_refl _) (Nat.le_refl _) rfl (Nat.le_of_ble_eq_true rfl) (fun r S1 hp => ?_)
  obtain ⟨rfl, sg1, la1, rfl, hK1⟩ := hp
  show AW l G mL_law 2048 F bc bs 943 [some (.ref 1003), some (.ref 0), some (.ref 60), some (.int (nI i))] [.int (q_later σ ((az_ex G 1003).2 (i + 1)) ((az_ex G 1003).2 (i + 2))).1] (sh, sg1, la1)
  have hR1 := hR.mv hK1
  refine A_aload_n dL_law_943 rfl rfl ?_
  refine A_aload_n dL_law_944 rfl rfl ?_
  refine A_iload_n dL_law_945 rfl rfl ?_
  refine A_iconst (v := 1) dL_law_946 (by decide) ?_
  refine A_iadd dL_law_947 ?_
  refine A_eald (k := 1003) (i := i + 1) dL_law_948 (by decide) (by decide) (by omega) hL (nI_add i 1) ?_
  refine A_aload_n dL_law_949 rfl rfl ?_
  refine A_iload_n dL_law_950 rfl rfl ?_
  refine A_iconst (v := 2) dL_law_951 (by decide) ?_
  refine A_iadd dL_law_952 ?_
  refine A_eald (k := 1003) (i := i + 2) dL_law_953 (by decide) (by decide) (by omega) hL (nI_add i 2) ?_
  refine A_callV (n := 0) dL_law_954 kvX8_later mlL_113 rfl (az_rc_obj clX8 (hS.1 0 _ rfl)) (y_later l G 2000 sh sg1 la1 (sg1, la1) σ kp tr ((az_ex G 1003).2 (i + 1)) ((az_ex G 1003).2 (i + 2)) hS.1 hR1 hK.wf) (by decide) (Nat.le_refl _) (Nat.le_refl _) rfl (Nat.le_of_ble_eq_true rfl) (fun r S1 hp => ?_)
  obtain ⟨rfl, sg2, la2, rfl, hR2⟩ := hp
  show AW l G mL_law 2048 F bc bs 957 [some (.ref 1003), some (.ref 0), some (.ref 60), some (.int (nI i))] [.int (q_later σ ((az_ex G 1003).2 (i + 1)) ((az_ex G 1003).2 (i + 2))).1, .int (q_later σ ((az_ex G 1003).2 (i + 1)) ((az_ex G 1003).2 (i + 2))).1] (sh, sg2, la2)
  refine A_icmp_eq (tgt := 1791) dL_law_957 rfl (fun _ => ?_) (fun h => absurd rfl h)
  exact back sh sg2 la2 _ _ _ bc bs (LI_go hX hS hK1 hR2 hb)
set_option maxHeartbeats 1000000 in
set_option maxRecDepth 100000 in
theorem lc_23 (l : Launch) (G : az_Gh) (F : az_Fn) (bc bs i : Nat) (sh : List az_Sh) (sg : Nat → Nat → Int32) (la : Nat → Nat → Int64) (σ : SGM) (kp tr : Option Nat) (hL : (az_ex G 1003).1 < 2 ^ 31) (hi : i + 6 ≤ (az_ex G 1003).1) (hI : LI sh sg la σ kp tr bc bs) (back : ∀ (sh : List az_Sh) (sg : Nat → Nat → Int32) (la : Nat → Nat → Int64) (σ : SGM) (kp tr : Option Nat) (bc bs : Nat), LI sh sg la σ kp tr bc bs → AW l G mL_law 2048 F bc bs 1791 [some (.ref 1003), some (.ref 0), some (.ref 60), some (.int (nI i))] [] (sh, sg, la)) : AW l G mL_law 2048 F bc bs 962 [some (.ref 1003), some (.ref 0), some (.ref 60), some (.int (nI i))] [] (sh, sg, la) := by
  obtain ⟨hX, hS, hK, hR, hb⟩ := hI
  refine A_aload_n dL_law_962 rfl rfl ?_
  refine A_aload_n dL_law_963 rfl rfl ?_
  refine A_iload_n dL_law_964 rfl rfl ?_
  refine A_iconst (v := 1) dL_law_965 (by decide) ?_
  refine A_iadd dL_law_966 ?_
  refine A_eald (k := 1003) (i := i + 1) dL_law_967 (by decide) (by decide) (by omega) hL (nI_add i 1) ?_
  refine A_aload_n dL_law_968 rfl rfl ?_
  refine A_iload_n dL_law_969 rfl rfl ?_
  refine A_iconst (v := 2) dL_law_970 (by decide) ?_
  refine A_iadd dL_law_971 ?_
  refine A_eald (k := 1003) (i := i + 2) dL_law_972 (by decide) (by decide) (by omega) hL (nI_add i 2) ?_
  refine A_callV (n := 0) dL_law_973 kvX7_feeds mlL_114 rfl (az_rc_obj clX7 (hX 0 _ rfl)) (x_feeds l G 2000 sh sg la (sg, la) σ ((az_ex G 1003).2 (i + 1)) ((az_ex G 1003).2 (i + 2)) hX hK) (by decide) (Nat.le_refl _) (Nat.le_refl _) rfl (Nat.le_of_ble_eq_true rfl) (fun r S1 hp => ?_)
  obtain ⟨rfl, sg1, la1, rfl, hK1⟩ := hp
  show AW l G mL_law 2048 F bc bs 976 [some (.ref 1003), some (.ref 0), some (.ref 60), some (.int (nI i))] [.int (q_feeds σ ((az_ex G 1003).2 (i + 1)) ((az_ex G 1003).2 (i + 2))).1] (sh, sg1, la1)
  have hR1 := hR.mv hK1
  refine A_aload_n dL_law_976 rfl rfl ?_
  refine A_aload_n dL_law_977 rfl rfl ?_
  refine A_iload_n dL_law_978 rfl rfl ?_
  refine A_iconst (v := 1) dL_law_979 (by decide) ?_
  refine A_iadd dL_law_980 ?_
  refine A_eald (k := 1003) (i := i + 1) dL_law_981 (by decide) (by decide) (by omega) hL (nI_add i 1) ?_
  refine A_aload_n dL_law_982 rfl rfl ?_
  refine A_iload_n dL_law_983 rfl rfl ?_
  refine A_iconst (v := 2) dL_law_984 (by decide) ?_
  refine A_iadd dL_law_985 ?_
  refine A_eald (k := 1003) (i := i + 2) dL_law_986 (by decide) (by decide) (by omega) hL (nI_add i 2) ?_
  refine A_callV (n := 0) dL_law_987 kvX8_feeds mlL_117 rfl (az_rc_obj clX8 (hS.1 0 _ rfl)) (y_feeds l G 2000 sh sg1 la1 (sg1, la1) σ kp tr ((az_ex G 1003).2 (i + 1)) ((az_ex G 1003).2 (i + 2)) hS.1 hR1 hK.wf) (by decide) (Nat.le_refl _) (Nat.le_refl _) rfl (Nat.le_of_ble_eq_true rfl) (fun r S1 hp => ?_)
  obtain ⟨rfl, sg2, la2, rfl, hR2⟩ := hp
  show AW l G mL_law 2048 F bc bs 990 [some (.ref 1003), some (.ref 0), some (.ref 60), some (.int (nI i))] [.int (q_feeds σ ((az_ex G 1003).2 (i + 1)) ((az_ex G 1003).2 (i + 2))).1, .int (q_feeds σ ((az_ex G 1003).2 (i + 1)) ((az_ex G 1003).2 (i + 2))).1] (sh, sg2, la2)
  refine A_icmp_eq (tgt := 1791) dL_law_990 rfl (fun _ => ?_) (fun h => absurd rfl h)
  exact back sh sg2 la2 _ _ _ bc bs (LI_go hX hS hK1 hR2 hb)
set_option maxHeartbeats 1000000 in
set_option maxRecDepth 100000 in
theorem lc_24 (l : Launch) (G : az_Gh) (F : az_Fn) (bc bs i : Nat) (sh : List az_Sh) (sg : Nat → Nat → Int32) (la : Nat → Nat → Int64) (σ : SGM) (kp tr : Option Nat) (hL : (az_ex G 1003).1 < 2 ^ 31) (hi : i + 6 ≤ (az_ex G 1003).1) (hI : LI sh sg la σ kp tr bc bs) (back : ∀ (sh : List az_Sh) (sg : Nat → Nat → Int32) (la : Nat → Nat → Int64) (σ : SGM) (kp tr : Option Nat) (bc bs : Nat), LI sh sg la σ kp tr bc bs → AW l G mL_law 2048 F bc bs 1791 [some (.ref 1003), some (.ref 0), some (.ref 60), some (.int (nI i))] [] (sh, sg, la)) : AW l G mL_law 2048 F bc bs 995 [some (.ref 1003), some (.ref 0), some (.ref 60), some (.int (nI i))] [] (sh, sg, la) := by
  obtain ⟨hX, hS, hK, hR, hb⟩ := hI
  refine A_aload_n dL_law_995 rfl rfl ?_
  refine A_aload_n dL_law_996 rfl rfl ?_
  refine A_iload_n dL_law_997 rfl rfl ?_
  refine A_iconst (v := 1) dL_law_998 (by decide) ?_
  refine A_iadd dL_law_999 ?_
  refine A_eald (k := 1003) (i := i + 1) dL_law_1000 (by decide) (by decide) (by omega) hL (nI_add i 1) ?_
  refine A_callV (n := 0) dL_law_1001 kvX7_warm mlL_118 rfl (az_rc_obj clX7 (hX 0 _ rfl)) (x_warm l G 2000 sh sg la (sg, la) σ ((az_ex G 1003).2 (i + 1)) hX hK) (by decide) (Nat.le_refl _) (Nat.le_refl _) rfl (Nat.le_of_ble_eq_true rfl) (fun r S1 hp => ?_)
  obtain ⟨rfl, sg1, la1, rfl, hK1⟩ := hp
  show AW l G mL_law 2048 F bc bs 1004 [some (.ref 1003), some (.ref 0), some (.ref 60), some (.int (nI i))] [.int (q_warm σ ((az_ex G 1003).2 (i + 1))).1] (sh, sg1, la1)
  have hR1 := hR.mv hK1
  refine A_aload_n dL_law_1004 rfl rfl ?_
  refine A_aload_n dL_law_1005 rfl rfl ?_
  refine A_iload_n dL_law_1006 rfl rfl ?_
  refine A_iconst (v := 1) dL_law_1007 (by decide) ?_
  refine A_iadd dL_law_1008 ?_
  refine A_eald (k := 1003) (i := i + 1) dL_law_1009 (by decide) (by decide) (by omega) hL (nI_add i 1) ?_
  refine A_callV (n := 0) dL_law_1010 kvX8_warm mlL_121 rfl (az_rc_obj clX8 (hS.1 0 _ rfl)) (y_warm l G 2000 sh sg1 la1 (sg1, la1) σ kp tr ((az_ex G 1003).2 (i + 1)) hS.1 hR1 hK.wf) (by decide) (Nat.le_refl _) (Nat.le_refl _) rfl (Nat.le_of_ble_eq_true rfl) (fun r S1 hp => ?_)
  obtain ⟨rfl, sg2, la2, rfl, hR2⟩ := hp
  show AW l G mL_law 2048 F bc bs 1013 [some (.ref 1003), some (.ref 0), some (.ref 60), some (.int (nI i))] [.int (q_warm σ ((az_ex G 1003).2 (i + 1))).1, .int (q_warm σ ((az_ex G 1003).2 (i + 1))).1] (sh, sg2, la2)
  refine A_icmp_eq (tgt := 1791) dL_law_1013 rfl (fun _ => ?_) (fun h => absurd rfl h)
  exact back sh sg2 la2 _ _ _ bc bs (LI_go hX hS hK1 hR2 hb)
set_option maxHeartbeats 1000000 in
set_option maxRecDepth 100000 in
theorem lc_25 (l : Launch) (G : az_Gh) (F : az_Fn) (bc bs i : Nat) (sh : List az_Sh) (sg : Nat → Nat → Int32) (la : Nat → Nat → Int64) (σ : SGM) (kp tr : Option Nat) (hL : (az_ex G 1003).1 < 2 ^ 31) (hi : i + 6 ≤ (az_ex G 1003).1) (hI : LI sh sg la σ kp tr bc bs) (back : ∀ (sh : List az_Sh) (sg : Nat → Nat → Int32) (la : Nat → Nat → Int64) (σ : SGM) (kp tr : Option Nat) (bc bs : Nat), LI sh sg la σ kp tr bc bs → AW l G mL_law 2048 F bc bs 1791 [some (.ref 1003), some (.ref 0), some (.ref 60), some (.int (nI i))] [] (sh, sg, la)) : AW l G mL_law 2048 F bc bs 1018 [some (.ref 1003), some (.ref 0), some (.ref 60), some (.int (nI i))] [] (sh, sg, la) := by
  obtain ⟨hX, hS, hK, hR, hb⟩ := hI
  refine A_aload_n dL_law_1018 rfl rfl ?_
  refine A_aload_n dL_law_1019 rfl rfl ?_
  refine A_iload_n dL_law_1020 rfl rfl ?_
  refine A_iconst (v := 1) dL_law_1021 (by decide) ?_
  refine A_iadd dL_law_1022 ?_
  refine A_eald (k := 1003) (i := i + 1) dL_law_1023 (by decide) (by decide) (by omega) hL (nI_add i 1) ?_
  refine A_callV (n := 0) dL_law_1024 kvX7_out mlL_122 rfl (az_rc_obj clX7 (hX 0 _ rfl)) (x_out l G 2000 sh sg la (sg, la) σ ((az_ex G 1003).2 (i + 1)) hX hK) (by decide) (Nat.le_refl _) (Nat.le_refl _) rfl (Nat.le_of_ble_eq_true rfl) (fun r S1 hp => ?_)
  obtain ⟨rfl, sg1, la1, rfl, hK1⟩ := hp
  show AW l G mL_law 2048 F bc bs 1027 [some (.ref 1003), some (.ref 0), some (.ref 60), some (.int (nI i))] [.int (q_out σ ((az_ex G 1003).2 (i + 1))).1] (sh, sg1, la1)
  have hR1 := hR.mv hK1
  refine A_aload_n dL_law_1027 rfl rfl ?_
  refine A_aload_n dL_law_1028 rfl rfl ?_
  refine A_iload_n dL_law_1029 rfl rfl ?_
  refine A_iconst (v := 1) dL_law_1030 (by decide) ?_
  refine A_iadd dL_law_1031 ?_
  refine A_eald (k := 1003) (i := i + 1) dL_law_1032 (by decide) (by decide) (by omega) hL (nI_add i 1) ?_
  refine A_callV (n := 0) dL_law_1033 kvX8_out mlL_125 rfl (az_rc_obj clX8 (hS.1 0 _ rfl)) (y_out l G 2000 sh sg1 la1 (sg1, la1) σ kp tr ((az_ex G 1003).2 (i + 1)) hS.1 hR1 hK.wf) (by decide) (Nat.le_refl _) (Nat.le_refl _) rfl (Nat.le_of_ble_eq_true rfl) (fun r S1 hp => ?_)
  obtain ⟨rfl, sg2, la2, rfl, hR2⟩ := hp
  show AW l G mL_law 2048 F bc bs 1036 [some (.ref 1003), some (.ref 0), some (.ref 60), some (.int (nI i))] [.int (q_out σ ((az_ex G 1003).2 (i + 1))).1, .int (q_out σ ((az_ex G 1003).2 (i + 1))).1] (sh, sg2, la2)
  refine A_icmp_eq (tgt := 1791) dL_law_1036 rfl (fun _ => ?_) (fun h => absurd rfl h)
  exact back sh sg2 la2 _ _ _ bc bs (LI_go hX hS hK1 hR2 hb)
set_option maxHeartbeats 1000000 in
set_option maxRecDepth 100000 in
theorem lc_26 (l : Launch) (G : az_Gh) (F : az_Fn) (bc bs i : Nat) (sh : List az_Sh) (sg : Nat → Nat → Int32) (la : Nat → Nat → Int64) (σ : SGM) (kp tr : Option Nat) (hL : (az_ex G 1003).1 < 2 ^ 31) (hi : i + 6 ≤ (az_ex G 1003).1) (hI : LI sh sg la σ kp tr bc bs) (back : ∀ (sh : List az_Sh) (sg : Nat → Nat → Int32) (la : Nat → Nat → Int64) (σ : SGM) (kp tr : Option Nat) (bc bs : Nat), LI sh sg la σ kp tr bc bs → AW l G mL_law 2048 F bc bs 1791 [some (.ref 1003), some (.ref 0), some (.ref 60), some (.int (nI i))] [] (sh, sg, la)) : AW l G mL_law 2048 F bc bs 1041 [some (.ref 1003), some (.ref 0), some (.ref 60), some (.int (nI i))] [] (sh, sg, la) := by
  obtain ⟨hX, hS, hK, hR, hb⟩ := hI
  refine A_aload_n dL_law_1041 rfl rfl ?_
  refine A_aload_n dL_law_1042 rfl rfl ?_
  refine A_iload_n dL_law_1043 rfl rfl ?_
  refine A_iconst (v := 1) dL_law_1044 (by decide) ?_
  refine A_iadd dL_law_1045 ?_
  refine A_eald (k := 1003) (i := i + 1) dL_law_1046 (by decide) (by decide) (by omega) hL (nI_add i 1) ?_
  refine A_aload_n dL_law_1047 rfl rfl ?_
  refine A_iload_n dL_law_1048 rfl rfl ?_
  refine A_iconst (v := 2) dL_law_1049 (by decide) ?_
  refine A_iadd dL_law_1050 ?_
  refine A_eald (k := 1003) (i := i + 2) dL_law_1051 (by decide) (by decide) (by omega) hL (nI_add i 2) ?_
  refine A_aload_n dL_law_1052 rfl rfl ?_
  refine A_iload_n dL_law_1053 rfl rfl ?_
  refine A_iconst (v := 3) dL_law_1054 (by decide) ?_
  refine A_iadd dL_law_1055 ?_
  refine A_eald (k := 1003) (i := i + 3) dL_law_1056 (by decide) (by decide) (by omega) hL (nI_add i 3) ?_
  refine A_callV (n := 0) dL_law_1057 kvX7_prides mlL_126 rfl (az_rc_obj clX7 (hX 0 _ rfl)) (x_prides l G 2000 sh sg la (sg, la) σ ((az_ex G 1003).2 (i + 1)) ((az_ex G 1003).2 (i + 2)) ((az_ex G 1003).2 (i + 3)) hX hK) (by decide) (Nat.le_refl _) (Nat.le_refl _) rfl (Nat.le_of_ble_eq_true rfl) (fun r S1 hp => ?_)
  obtain ⟨rfl, sg1, la1, rfl, hK1⟩ := hp
  show AW l G mL_law 2048 F bc bs 1060 [some (.ref 1003), some (.ref 0), some (.ref 60), some (.int (nI i))] [.int (q_prides σ ((az_ex G 1003).2 (i + 1)) ((az_ex G 1003).2 (i + 2)) ((az_ex G 1003).2 (i + 3))).1] (sh, sg1, la1)
  have hR1 := hR.mv hK1
  refine A_aload_n dL_law_1060 rfl rfl ?_
  refine A_aload_n dL_law_1061 rfl rfl ?_
  refine A_iload_n dL_law_1062 rfl rfl ?_
  refine A_iconst (v := 1) dL_law_1063 (by decide) ?_
  refine A_iadd dL_law_1064 ?_
  refine A_eald (k := 1003) (i := i + 1) dL_law_1065 (by decide) (by decide) (by omega) hL (nI_add i 1) ?_
  refine A_aload_n dL_law_1066 rfl rfl ?_
  refine A_iload_n dL_law_1067 rfl rfl ?_
  refine A_iconst (v := 2) dL_law_1068 (by decide) ?_
  refine A_iadd dL_law_1069 ?_
  refine A_eald (k := 1003) (i := i + 2) dL_law_1070 (by decide) (by decide) (by omega) hL (nI_add i 2) ?_
  refine A_aload_n dL_law_1071 rfl rfl ?_
  refine A_iload_n dL_law_1072 rfl rfl ?_
  refine A_iconst (v := 3) dL_law_1073 (by decide) ?_
  refine A_iadd dL_law_1074 ?_
  refine A_eald (k := 1003) (i := i + 3) dL_law_1075 (by decide) (by decide) (by omega) hL (nI_add i 3) ?_
  refine A_callV (n := 0) dL_law_1076 kvX8_prides mlL_129 rfl (az_rc_obj clX8 (hS.1 0 _ rfl)) (y_prides l G 2000 sh sg1 la1 (sg1, la1) σ kp tr ((az_ex G 1003).2 (i + 1)) ((az_ex G 1003).2 (i + 2)) ((az_ex G 1003).2 (i + 3)) hS.1 hR1 hK.wf) (by decide) (Nat.le_refl _) (Nat.le_refl _) rfl (Nat.le_of_ble_eq_true rfl) (fun r S1 hp => ?_)
  obtain ⟨rfl, sg2, la2, rfl, hR2⟩ := hp
  show AW l G mL_law 2048 F bc bs 1079 [some (.ref 1003), some (.ref 0), some (.ref 60), some (.int (nI i))] [.int (q_prides σ ((az_ex G 1003).2 (i + 1)) ((az_ex G 1003).2 (i + 2)) ((az_ex G 1003).2 (i + 3))).1, .int (q_prides σ ((az_ex G 1003).2 (i + 1)) ((az_ex G 1003).2 (i + 2)) ((az_ex G 1003).2 (i + 3))).1] (sh, sg2, la2)
  refine A_icmp_eq (tgt := 1791) dL_law_1079 rfl (fun _ => ?_) (fun h => absurd rfl h)
  exact back sh sg2 la2 _ _ _ bc bs (LI_go hX hS hK1 hR2 hb)
set_option maxHeartbeats 1000000 in
set_option maxRecDepth 100000 in
theorem lc_27 (l : Launch) (G : az_Gh) (F : az_Fn) (bc bs i : Nat) (sh : List az_Sh) (sg : Nat → Nat → Int32) (la : Nat → Nat → Int64) (σ : SGM) (kp tr : Option Nat) (hL : (az_ex G 1003).1 < 2 ^ 31) (hi : i + 6 ≤ (az_ex G 1003).1) (hI : LI sh sg la σ kp tr bc bs) (back : ∀ (sh : List az_Sh) (sg : Nat → Nat → Int32) (la : Nat → Nat → Int64) (σ : SGM) (kp tr : Option Nat) (bc bs : Nat), LI sh sg la σ kp tr bc bs → AW l G mL_law 2048 F bc bs 1791 [some (.ref 1003), some (.ref 0), some (.ref 60), some (.int (nI i))] [] (sh, sg, la)) : AW l G mL_law 2048 F bc bs 1084 [some (.ref 1003), some (.ref 0), some (.ref 60), some (.int (nI i))] [] (sh, sg, la) := by
  obtain ⟨hX, hS, hK, hR, hb⟩ := hI
  refine A_aload_n dL_law_1084 rfl rfl ?_
  refine A_aload_n dL_law_1085 rfl rfl ?_
  refine A_iload_n dL_law_1086 rfl rfl ?_
  refine A_iconst (v := 1) dL_law_1087 (by decide) ?_
  refine A_iadd dL_law_1088 ?_
  refine A_eald (k := 1003) (i := i + 1) dL_law_1089 (by decide) (by decide) (by omega) hL (nI_add i 1) ?_
  refine A_aload_n dL_law_1090 rfl rfl ?_
  refine A_iload_n dL_law_1091 rfl rfl ?_
  refine A_iconst (v := 2) dL_law_1092 (by decide) ?_
  refine A_iadd dL_law_1093 ?_
  refine A_eald (k := 1003) (i := i + 2) dL_law_1094 (by decide) (by decide) (by omega) hL (nI_add i 2) ?_
  refine A_aload_n dL_law_1095 rfl rfl ?_
  refine A_iload_n dL_law_1096 rfl rfl ?_
  refine A_iconst (v := 3) dL_law_1097 (by decide) ?_
  refine A_iadd dL_law_1098 ?_
  refine A_eald (k := 1003) (i := i + 3) dL_law_1099 (by decide) (by decide) (by omega) hL (nI_add i 3) ?_
  refine A_callV (n := 0) dL_law_1100 kvX7_kinds mlL_130 rfl (az_rc_obj clX7 (hX 0 _ rfl)) (x_kinds l G 2000 sh sg la (sg, la) σ ((az_ex G 1003).2 (i + 1)) ((az_ex G 1003).2 (i + 2)) ((az_ex G 1003).2 (i + 3)) hX hK) (by decide) (Nat.le_refl _) (Nat.le_refl _) rfl (Nat.le_of_ble_eq_true rfl) (fun r S1 hp => ?_)
  obtain ⟨rfl, sg1, la1, rfl, hK1⟩ := hp
  show AW l G mL_law 2048 F bc bs 1103 [some (.ref 1003), some (.ref 0), some (.ref 60), some (.int (nI i))] [.int (q_kinds σ ((az_ex G 1003).2 (i + 1)) ((az_ex G 1003).2 (i + 2)) ((az_ex G 1003).2 (i + 3))).1] (sh, sg1, la1)
  have hR1 := hR.mv hK1
  refine A_aload_n dL_law_1103 rfl rfl ?_
  refine A_aload_n dL_law_1104 rfl rfl ?_
  refine A_iload_n dL_law_1105 rfl rfl ?_
  refine A_iconst (v := 1) dL_law_1106 (by decide) ?_
  refine A_iadd dL_law_1107 ?_
  refine A_eald (k := 1003) (i := i + 1) dL_law_1108 (by decide) (by decide) (by omega) hL (nI_add i 1) ?_
  refine A_aload_n dL_law_1109 rfl rfl ?_
  refine A_iload_n dL_law_1110 rfl rfl ?_
  refine A_iconst (v := 2) dL_law_1111 (by decide) ?_
  refine A_iadd dL_law_1112 ?_
  refine A_eald (k := 1003) (i := i + 2) dL_law_1113 (by decide) (by decide) (by omega) hL (nI_add i 2) ?_
  refine A_aload_n dL_law_1114 rfl rfl ?_
  refine A_iload_n dL_law_1115 rfl rfl ?_
  refine A_iconst (v := 3) dL_law_1116 (by decide) ?_
  refine A_iadd dL_law_1117 ?_
  refine A_eald (k := 1003) (i := i + 3) dL_law_1118 (by decide) (by decide) (by omega) hL (nI_add i 3) ?_
  refine A_callV (n := 0) dL_law_1119 kvX8_kinds mlL_133 rfl (az_rc_obj clX8 (hS.1 0 _ rfl)) (y_kinds l G 2000 sh sg1 la1 (sg1, la1) σ kp tr ((az_ex G 1003).2 (i + 1)) ((az_ex G 1003).2 (i + 2)) ((az_ex G 1003).2 (i + 3)) hS.1 hR1 hK.wf) (by decide) (Nat.le_refl _) (Nat.le_refl _) rfl (Nat.le_of_ble_eq_true rfl) (fun r S1 hp => ?_)
  obtain ⟨rfl, sg2, la2, rfl, hR2⟩ := hp
  show AW l G mL_law 2048 F bc bs 1122 [some (.ref 1003), some (.ref 0), some (.ref 60), some (.int (nI i))] [.int (q_kinds σ ((az_ex G 1003).2 (i + 1)) ((az_ex G 1003).2 (i + 2)) ((az_ex G 1003).2 (i + 3))).1, .int (q_kinds σ ((az_ex G 1003).2 (i + 1)) ((az_ex G 1003).2 (i + 2)) ((az_ex G 1003).2 (i + 3))).1] (sh, sg2, la2)
  refine A_icmp_eq (tgt := 1791) dL_law_1122 rfl (fun _ => ?_) (fun h => absurd rfl h)
  exact back sh sg2 la2 _ _ _ bc bs (LI_go hX hS hK1 hR2 hb)
