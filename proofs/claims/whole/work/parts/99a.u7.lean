section AzRows8
variable {l : Launch} {G : az_Gh} {M : az_Md} {d : Nat} {F : az_Fn} {bc bs pc : Nat} {lo : List (Option Value)} {st : List Value} {sh : List az_Sh} {sg : Nat → Nat → Int32} {la : Nat → Nat → Int64}
theorem N_newO {ci idx n bc2 bs2 N : Nat} {C : String} {T : u_T} {ty0 : Nat → FieldType} {fs : List (Option (Option Nat))} (hL : sh.length = n) (hd : decode M.2.1 pc = .ok (.new idx, 3)) (hcl : az_cl ci C T N ty0) (hw1 : Cond.classLink M.1.cls idx C ∈ az_tb) (hw2 : Cond.instantiable C N ∈ az_tb) (hw3 : Cond.initialized C ∈ az_tb) (hfs : fs = az_df N ty0) (hdf : ∀ j, j < N → (ty0 j).isReference = true ∨ defaultValue (ty0 j) = .int 0) (hb1 : bc2 + 1 ≤ bc) (hb2 : bs2 + N ≤ bs) (hlen : n < 1000) (kk : AW l G M d F bc2 bs2 (pc + 3) lo (.ref n :: st) (sh ++ [(ci, 0, fs)], az_z sg n, az_z la n)) : AW l G M d F bc bs pc lo st (sh, sg, la) := by
  subst hL
  exact A_newO hd hcl hw1 hw2 hw3 hfs hdf hb1 hb2 hlen kk
end AzRows8
theorem dfX3 : az_df 2 tyX3 = [some none, none] := rfl
def sgF (sg : Nat → Nat → Int32) (n : Nat) : Nat → Nat → Int32 := (az_w (sgC (az_z sg n) (n + 1)) n 1 (-1))
theorem z_sgF {sg : Nat → Nat → Int32} {n k : Nat} (h : n + 1 < k) : az_z (sgF sg n) k = sgF sg n := (az_zw (by omega) (z_sgC (by omega)))
set_option maxHeartbeats 1000000 in
set_option maxRecDepth 100000 in
theorem i_X3 (l : Launch) (G : az_Gh) (d : Nat) (sh : List az_Sh) (sg : Nat → Nat → Int32) (la : Nat → Nat → Int64) (n : Nat) (hn : sh.length = n) (hl : n < 800) : AM l G (d + 2) mX3_init [.ref n] (sh ++ [(3, 0, [some none, none])], az_z sg n, az_z la n) 6 54 (fun r S1 => r = none ∧ S1 = (sh ++ lyF n, sgF sg n, az_z la n)) := by
  refine az_ab knX3_init (Nat.le_of_ble_eq_true rfl) rfl (fun Post hP => ?_)
  show AW l G mX3_init (d + 2) (az_F G Post) 6 54 0 [some (.ref n)] [] (sh ++ [(3, 0, [some none, none])], az_z sg n, az_z la n)
  refine A_aload_n dX3_init_0 rfl rfl ?_
  refine A_oinit dX3_init_1 mlX3_3 w_oi1 w_oi2 (by omega) (Nat.le_of_ble_eq_true rfl) ?_
  refine A_aload_n dX3_init_4 rfl rfl ?_
  refine N_newO (n := n + 1) (bc2 := 5) (bs2 := 40) (by rw [List.length_append, hn]; rfl) dX3_init_5 clX2 ckX3_9 in_RX2 ii_RX2 dfX2.symm (by decide) (by decide) (by decide) (by omega) ?_
  refine A_dup dX3_init_8 rfl ?_
  refine A_callI (n := 0) (as := []) (bc2 := 0) (bs2 := 0) dX3_init_9 kiX2_init mlX3_11 rfl (i_X2 l G d (sh ++ ((3, 0, [some none, none]) :: ([]))) (az_z sg n) (az_z la n) (n + 1) (by rw [List.length_append, hn]; rfl) (by omega)) (by omega) (by decide) (by decide) rfl (Nat.le_of_ble_eq_true rfl) (fun r S1 hp => ?_)
  obtain ⟨rfl, rfl⟩ := hp
  rw [List.append_assoc, az_zzL la (by omega)]
  show AW l G mX3_init (d + 2) (az_F G Post) 0 0 12 [some (.ref n)] [.ref (n + 1), .ref n] (sh ++ ((3, 0, [some none, none]) :: (lyC (n + 1))), (sgC (az_z sg n) (n + 1)), az_z la n)
  refine B_putF dX3_init_12 ffX3_12 rfl (ap_get (i := 0) hn) (Nat.le_of_ble_eq_true rfl) (fun _ => rfl) (fun _ => rfl) (ap_set (i := 0) hn) ?_
  show AW l G mX3_init (d + 2) (az_F G Post) 0 0 15 [some (.ref n)] [] (sh ++ ((3, 0, [some (some (n + 1)), none]) :: (lyC (n + 1))), (sgC (az_z sg n) (n + 1)), az_z la n)
  refine A_aload_n dX3_init_15 rfl rfl ?_
  refine A_iconst (v := (-1)) dX3_init_16 (by decide) ?_
  refine B_putI dX3_init_17 fwX3_18 (ap_get (i := 0) hn) rfl ?_
  show AW l G mX3_init (d + 2) (az_F G Post) 0 0 20 [some (.ref n)] [] (sh ++ ((3, 0, [some (some (n + 1)), none]) :: (lyC (n + 1))), (az_w (sgC (az_z sg n) (n + 1)) n 1 (-1)), az_z la n)
  exact A_vret dX3_init_20 rfl (hP _ _ ⟨rfl, rfl⟩)
theorem dfX1 : az_df 4 tyX1 = [some none, some none, some none, none] := rfl
def sgH (sg : Nat → Nat → Int32) (n : Nat) : Nat → Nat → Int32 := (az_w (sgC (az_z sg n) (n + 1)) n 3 1)
theorem z_sgH {sg : Nat → Nat → Int32} {n k : Nat} (h : n + 1 < k) : az_z (sgH sg n) k = sgH sg n := (az_zw (by omega) (z_sgC (by omega)))
set_option maxHeartbeats 1000000 in
set_option maxRecDepth 100000 in
theorem i_X1 (l : Launch) (G : az_Gh) (d : Nat) (sh : List az_Sh) (sg : Nat → Nat → Int32) (la : Nat → Nat → Int64) (n : Nat) (hn : sh.length = n) (hl : n < 800) : AM l G (d + 2) mX1_init [.ref n] (sh ++ [(1, 0, [some none, some none, some none, none])], az_z sg n, az_z la n) 8 136 (fun r S1 => r = none ∧ S1 = (sh ++ lyH n, sgH sg n, az_z la n)) := by
  refine az_ab knX1_init (Nat.le_of_ble_eq_true rfl) rfl (fun Post hP => ?_)
  show AW l G mX1_init (d + 2) (az_F G Post) 8 136 0 [some (.ref n)] [] (sh ++ [(1, 0, [some none, some none, some none, none])], az_z sg n, az_z la n)
  refine A_aload_n dX1_init_0 rfl rfl ?_
  refine A_oinit dX1_init_1 mlX1_3 w_oi1 w_oi2 (by omega) (Nat.le_of_ble_eq_true rfl) ?_
  refine A_aload_n dX1_init_4 rfl rfl ?_
  refine N_newO (n := n + 1) (bc2 := 7) (bs2 := 122) (by rw [List.length_append, hn]; rfl) dX1_init_5 clX2 ckX1_9 in_RX2 ii_RX2 dfX2.symm (by decide) (by decide) (by decide) (by omega) ?_
  refine A_dup dX1_init_8 rfl ?_
  refine A_callI (n := 0) (as := []) (bc2 := 2) (bs2 := 82) dX1_init_9 kiX2_init mlX1_11 rfl (i_X2 l G d (sh ++ ((1, 0, [some none, some none, some none, none]) :: ([]))) (az_z sg n) (az_z la n) (n + 1) (by rw [List.length_append, hn]; rfl) (by omega)) (by omega) (by decide) (by decide) rfl (Nat.le_of_ble_eq_true rfl) (fun r S1 hp => ?_)
  obtain ⟨rfl, rfl⟩ := hp
  rw [List.append_assoc, az_zzL la (by omega)]
  show AW l G mX1_init (d + 2) (az_F G Post) 2 82 12 [some (.ref n)] [.ref (n + 1), .ref n] (sh ++ ((1, 0, [some none, some none, some none, none]) :: (lyC (n + 1))), (sgC (az_z sg n) (n + 1)), az_z la n)
  refine B_putF dX1_init_12 ffX1_12 rfl (ap_get (i := 0) hn) (Nat.le_of_ble_eq_true rfl) (fun _ => rfl) (fun _ => rfl) (ap_set (i := 0) hn) ?_
  show AW l G mX1_init (d + 2) (az_F G Post) 2 82 15 [some (.ref n)] [] (sh ++ ((1, 0, [some (some (n + 1)), some none, some none, none]) :: (lyC (n + 1))), (sgC (az_z sg n) (n + 1)), az_z la n)
  refine A_aload_n dX1_init_15 rfl rfl ?_
  refine A_bipush (v := 41) dX1_init_16 (by decide) ?_
  refine N_newI (m := 41) (n := n + 7) (bc2 := 1) (bs2 := 41) (by rw [hn]; rfl) (z_sgC (by omega)) (az_zzL la (by omega)) dX1_init_18 (by decide) rfl (by decide) (by decide) (by omega) ?_
  show AW l G mX1_init (d + 2) (az_F G Post) 1 41 20 [some (.ref n)] [.ref (n + 7), .ref n] (sh ++ ((1, 0, [some (some (n + 1)), some none, some none, none]) :: (lyC (n + 1) ++ [(100, 41, [])])), (sgC (az_z sg n) (n + 1)), az_z la n)
  refine B_putF dX1_init_20 ffX1_18 rfl (ap_get (i := 0) hn) (Nat.le_of_ble_eq_true rfl) (fun _ => rfl) (fun _ => rfl) (ap_set (i := 0) hn) ?_
  show AW l G mX1_init (d + 2) (az_F G Post) 1 41 23 [some (.ref n)] [] (sh ++ ((1, 0, [some (some (n + 1)), some (some (n + 7)), some none, none]) :: (lyC (n + 1) ++ [(100, 41, [])])), (sgC (az_z sg n) (n + 1)), az_z la n)
  refine A_aload_n dX1_init_23 rfl rfl ?_
  refine A_bipush (v := 41) dX1_init_24 (by decide) ?_
  refine N_newI (m := 41) (n := n + 8) (bc2 := 0) (bs2 := 0) (by rw [hn]; rfl) (z_sgC (by omega)) (az_zzL la (by omega)) dX1_init_26 (by decide) rfl (by decide) (by decide) (by omega) ?_
  show AW l G mX1_init (d + 2) (az_F G Post) 0 0 28 [some (.ref n)] [.ref (n + 8), .ref n] (sh ++ ((1, 0, [some (some (n + 1)), some (some (n + 7)), some none, none]) :: (lyC (n + 1) ++ [(100, 41, [])] ++ [(100, 41, [])])), (sgC (az_z sg n) (n + 1)), az_z la n)
  refine B_putF dX1_init_28 ffX1_22 rfl (ap_get (i := 0) hn) (Nat.le_of_ble_eq_true rfl) (fun _ => rfl) (fun _ => rfl) (ap_set (i := 0) hn) ?_
  show AW l G mX1_init (d + 2) (az_F G Post) 0 0 31 [some (.ref n)] [] (sh ++ ((1, 0, [some (some (n + 1)), some (some (n + 7)), some (some (n + 8)), none]) :: (lyC (n + 1) ++ [(100, 41, [])] ++ [(100, 41, [])])), (sgC (az_z sg n) (n + 1)), az_z la n)
  refine A_aload_n dX1_init_31 rfl rfl ?_
  refine A_iconst (v := 1) dX1_init_32 (by decide) ?_
  refine B_putI dX1_init_33 fwX1_25 (ap_get (i := 0) hn) rfl ?_
  show AW l G mX1_init (d + 2) (az_F G Post) 0 0 36 [some (.ref n)] [] (sh ++ ((1, 0, [some (some (n + 1)), some (some (n + 7)), some (some (n + 8)), none]) :: (lyC (n + 1) ++ [(100, 41, [])] ++ [(100, 41, [])])), (az_w (sgC (az_z sg n) (n + 1)) n 3 1), az_z la n)
  exact A_vret dX1_init_36 rfl (hP _ _ ⟨rfl, rfl⟩)
theorem dfX6 : az_df 2 tyX6 = [some none, some none] := rfl
def sgT (sg : Nat → Nat → Int32) (n : Nat) : Nat → Nat → Int32 := (sgC (az_z sg n) (n + 1))
theorem z_sgT {sg : Nat → Nat → Int32} {n k : Nat} (h : n + 1 < k) : az_z (sgT sg n) k = sgT sg n := (z_sgC (by omega))
set_option maxHeartbeats 1000000 in
set_option maxRecDepth 100000 in
theorem i_X6 (l : Launch) (G : az_Gh) (d : Nat) (sh : List az_Sh) (sg : Nat → Nat → Int32) (la : Nat → Nat → Int64) (n : Nat) (hn : sh.length = n) (hl : n < 800) : AM l G (d + 2) mX6_init [.ref n] (sh ++ [(6, 0, [some none, some none])], az_z sg n, az_z la n) 7 62 (fun r S1 => r = none ∧ S1 = (sh ++ lyT n, sgT sg n, az_z la n)) := by
  refine az_ab knX6_init (Nat.le_of_ble_eq_true rfl) rfl (fun Post hP => ?_)
  show AW l G mX6_init (d + 2) (az_F G Post) 7 62 0 [some (.ref n)] [] (sh ++ [(6, 0, [some none, some none])], az_z sg n, az_z la n)
  refine A_aload_n dX6_init_0 rfl rfl ?_
  refine A_oinit dX6_init_1 mlX6_3 w_oi1 w_oi2 (by omega) (Nat.le_of_ble_eq_true rfl) ?_
  refine A_aload_n dX6_init_4 rfl rfl ?_
  refine N_newO (n := n + 1) (bc2 := 6) (bs2 := 48) (by rw [List.length_append, hn]; rfl) dX6_init_5 clX2 ckX6_9 in_RX2 ii_RX2 dfX2.symm (by decide) (by decide) (by decide) (by omega) ?_
  refine A_dup dX6_init_8 rfl ?_
  refine A_callI (n := 0) (as := []) (bc2 := 1) (bs2 := 8) dX6_init_9 kiX2_init mlX6_11 rfl (i_X2 l G d (sh ++ ((6, 0, [some none, some none]) :: ([]))) (az_z sg n) (az_z la n) (n + 1) (by rw [List.length_append, hn]; rfl) (by omega)) (by omega) (by decide) (by decide) rfl (Nat.le_of_ble_eq_true rfl) (fun r S1 hp => ?_)
  obtain ⟨rfl, rfl⟩ := hp
  rw [List.append_assoc, az_zzL la (by omega)]
  show AW l G mX6_init (d + 2) (az_F G Post) 1 8 12 [some (.ref n)] [.ref (n + 1), .ref n] (sh ++ ((6, 0, [some none, some none]) :: (lyC (n + 1))), (sgC (az_z sg n) (n + 1)), az_z la n)
  refine B_putF dX6_init_12 ffX6_12 rfl (ap_get (i := 0) hn) (Nat.le_of_ble_eq_true rfl) (fun _ => rfl) (fun _ => rfl) (ap_set (i := 0) hn) ?_
  show AW l G mX6_init (d + 2) (az_F G Post) 1 8 15 [some (.ref n)] [] (sh ++ ((6, 0, [some (some (n + 1)), some none]) :: (lyC (n + 1))), (sgC (az_z sg n) (n + 1)), az_z la n)
  refine A_aload_n dX6_init_15 rfl rfl ?_
  refine A_bipush (v := 8) dX6_init_16 (by decide) ?_
  refine N_newI (m := 8) (n := n + 7) (bc2 := 0) (bs2 := 0) (by rw [hn]; rfl) (z_sgC (by omega)) (az_zzL la (by omega)) dX6_init_18 (by decide) rfl (by decide) (by decide) (by omega) ?_
  show AW l G mX6_init (d + 2) (az_F G Post) 0 0 20 [some (.ref n)] [.ref (n + 7), .ref n] (sh ++ ((6, 0, [some (some (n + 1)), some none]) :: (lyC (n + 1) ++ [(100, 8, [])])), (sgC (az_z sg n) (n + 1)), az_z la n)
  refine B_putF dX6_init_20 ffX6_18 rfl (ap_get (i := 0) hn) (Nat.le_of_ble_eq_true rfl) (fun _ => rfl) (fun _ => rfl) (ap_set (i := 0) hn) ?_
  show AW l G mX6_init (d + 2) (az_F G Post) 0 0 23 [some (.ref n)] [] (sh ++ ((6, 0, [some (some (n + 1)), some (some (n + 7))]) :: (lyC (n + 1) ++ [(100, 8, [])])), (sgC (az_z sg n) (n + 1)), az_z la n)
  exact A_vret dX6_init_23 rfl (hP _ _ ⟨rfl, rfl⟩)
