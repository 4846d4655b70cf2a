section AzF
variable {l : Launch} {G : az_Gh} {M : az_Md} {d : Nat} {F : az_Fn} {bc bs pc : Nat} {lo : List (Option Value)} {st : List Value} {S : az_St}
theorem A_getsF {idx : Nat} (hd : decode M.2.1 pc = .ok (.getstatic idx, 3)) (hl9 : Cond.fieldLink M.1.cls idx "jdk/internal/util/Preconditions" "SIOOBE_FORMATTER" "Ljava/util/function/BiFunction;" ∈ az_tb) (k1 : AW l G M d F bc bs (pc + 3) lo (.ref 1004 :: st) S) (k2 : AW l G M d F bc bs (pc + 3) lo (.null :: st) S) : AW l G M d F bc bs pc lo st S := by
  intro p e s m args below meth c H locs cells slots mc ms ls hC hH hS h1 h2 hl
  obtain ⟨hx, hb, hml, hr, hown, hts, hlk, ham, hnm⟩ := id hC
  rcases ham.2.2.2.2.2.2.2.2.2.2.2 with hz | hz
  · have hk9 : az_ad G 1004 = G.2.1 1004 := if_neg (by omega)
    have k1 : W p l e _ s m args below meth c H locs cells slots _ (F0 m (pc + 3) ls (.ref (az_ad G 1004) :: st.map (az_cv G))) := k1 p e s m args below meth c H locs cells slots mc ms ls hC hH hS h1 h2 hl
    rw [hk9] at k1
    exact va_gets hx hb hz hS hown (hts _ hl9) (fun _ h => h) hd k1
  · exact va_gets hx hb hz hS hown (hts _ hl9) (fun _ h => h) hd (k2 p e s m args below meth c H locs cells slots mc ms ls hC hH hS h1 h2 hl)
end AzF
def zch (k j : Nat) : Int32 := (az_tb8.getD k []).getD j 0
def zln (k : Nat) : Nat := az_tl.getD k 0
theorem zln_le : ∀ k, k < 7 → az_tl.getD k 0 ≤ 6 := by decide +kernel
theorem zch_c : ∀ k, k < 7 → ∀ j, j < az_tl.getD k 0 → (Int32.toUInt32 ((az_tb8.getD k []).getD j 0 &&& 255) % 65536).toInt32 = zch k j := by decide +kernel
theorem zch_n : ∀ k, k < 7 → ∀ j, j < az_tl.getD k 0 → (Int32.toUInt32 (zch k j) % 65536).toInt32 = zch k j := by decide +kernel
theorem zln_s : ∀ k, k < 7 → (nI (az_tl.getD k 0) >>> ((0 : Int32) &&& 31)) = nI (zln k) := by decide +kernel
set_option maxHeartbeats 600000 in
set_option maxRecDepth 100000 in
theorem c_J3_checkIndex_R (l : Launch) (G : az_Gh) (d : Nat) (sh : List az_Sh) (sg : Nat → Nat → Int32) (la : Nat → Nat → Int64) (i n : Nat) (hi : i < n) (hn : n < 1000) : FM l G (d) mJ3_checkIndex_8e157 [.int (nI i), .int (nI n), .ref 1004] (sh, sg, la) (some (.int (nI i))) (sh, sg, la) := by
  refine az_fm knJ3_checkIndex_8e157 (Nat.le_of_ble_eq_true rfl) rfl (fun Post hP => ?_)
  show AW l G mJ3_checkIndex_8e157 (d) (az_F G Post) 0 0 0 [some (.int (nI i)), some (.int (nI n)), some (.ref 1004)] [] (sh, sg, la)
  refine A_iload_n dJ3_checkIndex_8e157_0 rfl rfl ?_
  refine A_if_lt (tgt := 9) dJ3_checkIndex_8e157_1 rfl (fun h_1 => ?_) (fun h_1 => ?_)
  · skip
    exact absurd h_1 (nI_pos (by omega))
  · skip
    refine A_iload_n dJ3_checkIndex_8e157_4 rfl rfl ?_
    refine A_iload_n dJ3_checkIndex_8e157_5 rfl rfl ?_
    refine A_icmp_lt (tgt := 16) dJ3_checkIndex_8e157_6 rfl (fun h_2 => ?_) (fun h_2 => ?_)
    · skip
      refine A_iload_n dJ3_checkIndex_8e157_16 rfl rfl ?_
      refine A_iret dJ3_checkIndex_8e157_17 rfl (az_pi hP ?_ (rfl))
      rfl
    · skip
      exact absurd (nI_lt hi (by omega)) h_2
set_option maxHeartbeats 600000 in
set_option maxRecDepth 100000 in
theorem c_J3_checkIndex_N (l : Launch) (G : az_Gh) (d : Nat) (sh : List az_Sh) (sg : Nat → Nat → Int32) (la : Nat → Nat → Int64) (i n : Nat) (hi : i < n) (hn : n < 1000) : FM l G (d) mJ3_checkIndex_8e157 [.int (nI i), .int (nI n), .null] (sh, sg, la) (some (.int (nI i))) (sh, sg, la) := by
  refine az_fm knJ3_checkIndex_8e157 (Nat.le_of_ble_eq_true rfl) rfl (fun Post hP => ?_)
  show AW l G mJ3_checkIndex_8e157 (d) (az_F G Post) 0 0 0 [some (.int (nI i)), some (.int (nI n)), some (.null)] [] (sh, sg, la)
  refine A_iload_n dJ3_checkIndex_8e157_0 rfl rfl ?_
  refine A_if_lt (tgt := 9) dJ3_checkIndex_8e157_1 rfl (fun h_1 => ?_) (fun h_1 => ?_)
  · skip
    exact absurd h_1 (nI_pos (by omega))
  · skip
    refine A_iload_n dJ3_checkIndex_8e157_4 rfl rfl ?_
    refine A_iload_n dJ3_checkIndex_8e157_5 rfl rfl ?_
    refine A_icmp_lt (tgt := 16) dJ3_checkIndex_8e157_6 rfl (fun h_2 => ?_) (fun h_2 => ?_)
    · skip
      refine A_iload_n dJ3_checkIndex_8e157_16 rfl rfl ?_
      refine A_iret dJ3_checkIndex_8e157_17 rfl (az_pi hP ?_ (rfl))
      rfl
    · skip
      exact absurd (nI_lt hi (by omega)) h_2
set_option maxHeartbeats 600000 in
set_option maxRecDepth 100000 in
theorem c_J0_checkIndex_df160 (l : Launch) (G : az_Gh) (d : Nat) (sh : List az_Sh) (sg : Nat → Nat → Int32) (la : Nat → Nat → Int64) (i n : Nat) (hi : i < n) (hn : n < 1000) : FM l G (d + 1) mJ0_checkIndex_df160 [.int (nI i), .int (nI n)] (sh, sg, la) (none) (sh, sg, la) := by
  refine az_fm knJ0_checkIndex_df160 (Nat.le_of_ble_eq_true rfl) rfl (fun Post hP => ?_)
  show AW l G mJ0_checkIndex_df160 (d + 1) (az_F G Post) 0 0 0 [some (.int (nI i)), some (.int (nI n))] [] (sh, sg, la)
  refine A_iload_n dJ0_checkIndex_df160_0 rfl rfl ?_
  refine A_iload_n dJ0_checkIndex_df160_1 rfl rfl ?_
  refine A_getsF dJ0_checkIndex_df160_2 flJ0_1053 ?_ ?_
  · skip
    refine A_callS (n := 0) dJ0_checkIndex_df160_5 ksJ3_checkIndex_8e157 mlJ0_1059 rfl (c_J3_checkIndex_R l G d sh sg la i n hi hn) (by omega) (Nat.le_refl _) (Nat.le_refl _) rfl (Nat.le_of_ble_eq_true rfl) (fun r S1 hp => ?_)
    obtain ⟨rfl, rfl⟩ := hp
    show AW l G mJ0_checkIndex_df160 (d + 1) (az_F G Post) 0 0 8 [some (.int (nI i)), some (.int (nI n))] [.int (nI i)] (sh, sg, la)
    refine A_pop dJ0_checkIndex_df160_8 rfl ?_
    exact A_vret dJ0_checkIndex_df160_9 rfl (az_pv hP (rfl))
  · skip
    refine A_callS (n := 0) dJ0_checkIndex_df160_5 ksJ3_checkIndex_8e157 mlJ0_1059 rfl (c_J3_checkIndex_N l G d sh sg la i n hi hn) (by omega) (Nat.le_refl _) (Nat.le_refl _) rfl (Nat.le_of_ble_eq_true rfl) (fun r S1 hp => ?_)
    obtain ⟨rfl, rfl⟩ := hp
    show AW l G mJ0_checkIndex_df160 (d + 1) (az_F G Post) 0 0 8 [some (.int (nI i)), some (.int (nI n))] [.int (nI i)] (sh, sg, la)
    refine A_pop dJ0_checkIndex_df160_8 rfl ?_
    exact A_vret dJ0_checkIndex_df160_9 rfl (az_pv hP (rfl))
set_option maxHeartbeats 600000 in
set_option maxRecDepth 100000 in
theorem c_J1_charAt_3b067 (l : Launch) (G : az_Gh) (d : Nat) (sh : List az_Sh) (sg : Nat → Nat → Int32) (la : Nat → Nat → Int64) (k j : Nat) (hk : k < 7) (hj : j < az_tl.getD k 0) : FM l G (d + 2) mJ1_charAt_3b067 [.ref (3000 + k), .int (nI j)] (sh, sg, la) (some (.int (zch k j))) (sh, sg, la) := by
  refine az_fm knJ1_charAt_3b067 (Nat.le_of_ble_eq_true rfl) rfl (fun Post hP => ?_)
  show AW l G mJ1_charAt_3b067 (d + 2) (az_F G Post) 0 0 0 [some (.ref (3000 + k)), some (.int (nI j))] [] (sh, sg, la)
  have hl6 := zln_le k hk
  refine A_iload_n dJ1_charAt_3b067_0 rfl rfl ?_
  refine A_aload_n dJ1_charAt_3b067_1 rfl rfl ?_
  refine A_blen dJ1_charAt_3b067_2 hk ?_
  refine A_callS (n := 0) dJ1_charAt_3b067_3 ksJ0_checkIndex_df160 mlJ1_9 rfl (c_J0_checkIndex_df160 l G d sh sg la j (az_tl.getD k 0) hj (by omega)) (by omega) (Nat.le_refl _) (Nat.le_refl _) rfl (Nat.le_of_ble_eq_true rfl) (fun r S1 hp => ?_)
  obtain ⟨rfl, rfl⟩ := hp
  show AW l G mJ1_charAt_3b067 (d + 2) (az_F G Post) 0 0 6 [some (.ref (3000 + k)), some (.int (nI j))] [] (sh, sg, la)
  refine A_aload_n dJ1_charAt_3b067_6 rfl rfl ?_
  refine A_iload_n dJ1_charAt_3b067_7 rfl rfl ?_
  refine A_bald (j := j) dJ1_charAt_3b067_8 hk (hj) (by omega) (rfl) ?_
  refine A_sipush (v := 255) dJ1_charAt_3b067_9 (by decide) ?_
  refine A_iand dJ1_charAt_3b067_12 ?_
  refine A_i2c dJ1_charAt_3b067_13 ?_
  refine B_top (zch_c k hk j hj) ?_
  refine A_zret dJ1_charAt_3b067_14 rfl (congrArg Value.int (zch_n k hk j hj)) (az_pi hP ?_ (rfl))
  rfl
set_option maxHeartbeats 600000 in
set_option maxRecDepth 100000 in
theorem c_J0_isLatin1_aae02 (l : Launch) (G : az_Gh) (d : Nat) (sh : List az_Sh) (sg : Nat → Nat → Int32) (la : Nat → Nat → Int64) (k : Nat) (hk : k < 7) : FM l G (d) mJ0_isLatin1_aae02 [.ref (2000 + k)] (sh, sg, la) (some (.int 1)) (sh, sg, la) := by
  refine az_fm knJ0_isLatin1_aae02 (Nat.le_of_ble_eq_true rfl) rfl (fun Post hP => ?_)
  show AW l G mJ0_isLatin1_aae02 (d) (az_F G Post) 0 0 0 [some (.ref (2000 + k))] [] (sh, sg, la)
  refine A_getsZ dJ0_isLatin1_aae02_0 flJ0_38 ?_
  refine A_if_eq (tgt := 17) dJ0_isLatin1_aae02_3 rfl (fun h_1 => ?_) (fun h_1 => ?_)
  · skip
    exact absurd h_1 (by decide)
  · skip
    refine A_aload_n dJ0_isLatin1_aae02_6 rfl rfl ?_
    refine A_getSc dJ0_isLatin1_aae02_7 hk flJ0_15 ?_
    refine A_if_ne (tgt := 17) dJ0_isLatin1_aae02_10 rfl (fun h_2 => ?_) (fun h_2 => ?_)
    · skip
      exact absurd rfl h_2
    · skip
      refine A_iconst (v := 1) dJ0_isLatin1_aae02_13 (by decide) ?_
      refine A_goto (tgt := 18) dJ0_isLatin1_aae02_14 rfl ?_
      refine A_zret dJ0_isLatin1_aae02_18 rfl (rfl) (az_pi hP ?_ (rfl))
      rfl
set_option maxHeartbeats 600000 in
set_option maxRecDepth 100000 in
theorem c_J0_coder_7d493 (l : Launch) (G : az_Gh) (d : Nat) (sh : List az_Sh) (sg : Nat → Nat → Int32) (la : Nat → Nat → Int64) (k : Nat) (hk : k < 7) : FM l G (d) mJ0_coder_7d493 [.ref (2000 + k)] (sh, sg, la) (some (.int 0)) (sh, sg, la) := by
  refine az_fm knJ0_coder_7d493 (Nat.le_of_ble_eq_true rfl) rfl (fun Post hP => ?_)
  show AW l G mJ0_coder_7d493 (d) (az_F G Post) 0 0 0 [some (.ref (2000 + k))] [] (sh, sg, la)
  refine A_getsZ dJ0_coder_7d493_0 flJ0_38 ?_
  refine A_if_eq (tgt := 13) dJ0_coder_7d493_3 rfl (fun h_1 => ?_) (fun h_1 => ?_)
  · skip
    exact absurd h_1 (by decide)
  · skip
    refine A_aload_n dJ0_coder_7d493_6 rfl rfl ?_
    refine A_getSc dJ0_coder_7d493_7 hk flJ0_15 ?_
    refine A_goto (tgt := 14) dJ0_coder_7d493_10 rfl ?_
    refine A_zret dJ0_coder_7d493_14 rfl (rfl) (az_pi hP ?_ (rfl))
    rfl
set_option maxHeartbeats 600000 in
set_option maxRecDepth 100000 in
theorem c_J0_length_8abf5 (l : Launch) (G : az_Gh) (d : Nat) (sh : List az_Sh) (sg : Nat → Nat → Int32) (la : Nat → Nat → Int64) (k : Nat) (hk : k < 7) : FM l G (d + 1) mJ0_length_8abf5 [.ref (2000 + k)] (sh, sg, la) (some (.int (nI (zln k)))) (sh, sg, la) := by
  refine az_fm knJ0_length_8abf5 (Nat.le_of_ble_eq_true rfl) rfl (fun Post hP => ?_)
  show AW l G mJ0_length_8abf5 (d + 1) (az_F G Post) 0 0 0 [some (.ref (2000 + k))] [] (sh, sg, la)
  refine A_aload_n dJ0_length_8abf5_0 rfl rfl ?_
  refine A_getSv dJ0_length_8abf5_1 hk flJ0_9 ?_
  refine A_blen dJ0_length_8abf5_4 hk ?_
  refine A_aload_n dJ0_length_8abf5_5 rfl rfl ?_
  refine A_callV (n := 0) dJ0_length_8abf5_6 kvJ0_coder_7d493 mlJ0_335 rfl (az_rc_str hk) (c_J0_coder_7d493 l G d sh sg la k hk) (by omega) (Nat.le_refl _) (Nat.le_refl _) rfl (Nat.le_of_ble_eq_true rfl) (fun r S1 hp => ?_)
  obtain ⟨rfl, rfl⟩ := hp
  show AW l G mJ0_length_8abf5 (d + 1) (az_F G Post) 0 0 9 [some (.ref (2000 + k))] [.int 0, .int (nI (az_tl.getD k 0))] (sh, sg, la)
  refine A_ishr dJ0_length_8abf5_9 ?_
  refine A_iret dJ0_length_8abf5_10 rfl (az_pi hP ?_ (rfl))
  exact zln_s k hk
set_option maxHeartbeats 600000 in
set_option maxRecDepth 100000 in
theorem c_J0_charAt_5068e (l : Launch) (G : az_Gh) (d : Nat) (sh : List az_Sh) (sg : Nat → Nat → Int32) (la : Nat → Nat → Int64) (k j : Nat) (hk : k < 7) (hj : j < zln k) : FM l G (d + 3) mJ0_charAt_5068e [.ref (2000 + k), .int (nI j)] (sh, sg, la) (some (.int (zch k j))) (sh, sg, la) := by
  refine az_fm knJ0_charAt_5068e (Nat.le_of_ble_eq_true rfl) rfl (fun Post hP => ?_)
  show AW l G mJ0_charAt_5068e (d + 3) (az_F G Post) 0 0 0 [some (.ref (2000 + k)), some (.int (nI j))] [] (sh, sg, la)
  refine A_aload_n dJ0_charAt_5068e_0 rfl rfl ?_
  refine A_callV (n := 0) dJ0_charAt_5068e_1 kvJ0_isLatin1_aae02 mlJ0_492 rfl (az_rc_str hk) (c_J0_isLatin1_aae02 l G (d + 2) sh sg la k hk) (by omega) (Nat.le_refl _) (Nat.le_refl _) rfl (Nat.le_of_ble_eq_true rfl) (fun r S1 hp => ?_)
  obtain ⟨rfl, rfl⟩ := hp
  show AW l G mJ0_charAt_5068e (d + 3) (az_F G Post) 0 0 4 [some (.ref (2000 + k)), some (.int (nI j))] [.int 1] (sh, sg, la)
  refine A_if_eq (tgt := 16) dJ0_charAt_5068e_4 rfl (fun h_1 => ?_) (fun h_1 => ?_)
  · skip
    exact absurd h_1 (by decide)
  · skip
    refine A_aload_n dJ0_charAt_5068e_7 rfl rfl ?_
    refine A_getSv dJ0_charAt_5068e_8 hk flJ0_9 ?_
    refine A_iload_n dJ0_charAt_5068e_11 rfl rfl ?_
    refine A_callS (n := 0) dJ0_charAt_5068e_12 ksJ1_charAt_3b067 mlJ0_495 rfl (c_J1_charAt_3b067 l G d sh sg la k j hk hj) (by omega) (Nat.le_refl _) (Nat.le_refl _) rfl (Nat.le_of_ble_eq_true rfl) (fun r S1 hp => ?_)
    obtain ⟨rfl, rfl⟩ := hp
    show AW l G mJ0_charAt_5068e (d + 3) (az_F G Post) 0 0 15 [some (.ref (2000 + k)), some (.int (nI j))] [.int (zch k j)] (sh, sg, la)
    refine A_zret dJ0_charAt_5068e_15 rfl (congrArg Value.int (zch_n k hk j hj)) (az_pi hP ?_ (rfl))
    rfl
