theorem dfX2 : az_df 14 tyX2 = [some none, some none, some none, some none, some none, none, none, none, none, none, none, none, none, none] := rfl
def sgC (sg : Nat → Nat → Int32) (n : Nat) : Nat → Nat → Int32 := (az_w (az_w (az_w (az_w (az_w (az_w (az_w (az_w (az_w (az_z sg n) n 5 0) n 6 25) n 7 1) n 8 0) n 9 (-1)) n 10 2) n 11 1) n 12 0) n 13 (-1))
theorem z_sgC {sg : Nat → Nat → Int32} {n k : Nat} (h : n < k) : az_z (sgC sg n) k = sgC sg n := (az_zw (by omega) (az_zw (by omega) (az_zw (by omega) (az_zw (by omega) (az_zw (by omega) (az_zw (by omega) (az_zw (by omega) (az_zw (by omega) (az_zw (by omega) (az_zz sg (by omega)))))))))))
set_option maxHeartbeats 1000000 in
set_option maxRecDepth 100000 in
theorem i_X2 (l : Launch) (G : az_Gh) (d : Nat) (sh : List az_Sh) (sg : Nat → Nat → Int32) (la : Nat → Nat → Int64) (n : Nat) (hn : sh.length = n) (hl : n < 900) : AM l G (d + 1) mX2_init [.ref n] (sh ++ [(2, 0, [some none, some none, some none, some none, some none, none, none, none, none, none, none, none, none, none])], az_z sg n, az_z la n) 5 40 (fun r S1 => r = none ∧ S1 = (sh ++ lyC n, sgC sg n, az_z la n)) := by
  refine az_ab knX2_init (Nat.le_of_ble_eq_true rfl) rfl (fun Post hP => ?_)
  show AW l G mX2_init (d + 1) (az_F G Post) 5 40 0 [some (.ref n)] [] (sh ++ [(2, 0, [some none, some none, some none, some none, some none, none, none, none, none, none, none, none, none, none])], az_z sg n, az_z la n)
  refine A_aload_n dX2_init_0 rfl rfl ?_
  refine A_oinit dX2_init_1 mlX2_3 w_oi1 w_oi2 (by omega) (Nat.le_of_ble_eq_true rfl) ?_
  refine A_aload_n dX2_init_4 rfl rfl ?_
  refine A_bipush (v := 8) dX2_init_5 (by decide) ?_
  refine N_newI (m := 8) (n := n + 1) (bc2 := 4) (bs2 := 32) (by rw [hn]; rfl) (az_zz sg (by omega)) (az_zzL la (by omega)) dX2_init_7 (by decide) rfl (by decide) (by decide) (by omega) ?_
  show AW l G mX2_init (d + 1) (az_F G Post) 4 32 9 [some (.ref n)] [.ref (n + 1), .ref n] (sh ++ [(2, 0, [some none, some none, some none, some none, some none, none, none, none, none, none, none, none, none, none]), (100, 8, [])], (az_z sg n), az_z la n)
  refine B_putF dX2_init_9 ffX2_9 rfl (ap_get (i := 0) hn) (Nat.le_of_ble_eq_true rfl) (fun _ => rfl) (fun _ => rfl) (ap_set (i := 0) hn) ?_
  show AW l G mX2_init (d + 1) (az_F G Post) 4 32 12 [some (.ref n)] [] (sh ++ [(2, 0, [some (some (n + 1)), some none, some none, some none, some none, none, none, none, none, none, none, none, none, none]), (100, 8, [])], (az_z sg n), az_z la n)
  refine A_aload_n dX2_init_12 rfl rfl ?_
  refine A_bipush (v := 8) dX2_init_13 (by decide) ?_
  refine N_newI (m := 8) (n := n + 2) (bc2 := 3) (bs2 := 24) (by rw [hn]; rfl) (az_zz sg (by omega)) (az_zzL la (by omega)) dX2_init_15 (by decide) rfl (by decide) (by decide) (by omega) ?_
  show AW l G mX2_init (d + 1) (az_F G Post) 3 24 17 [some (.ref n)] [.ref (n + 2), .ref n] (sh ++ [(2, 0, [some (some (n + 1)), some none, some none, some none, some none, none, none, none, none, none, none, none, none, none]), (100, 8, []), (100, 8, [])], (az_z sg n), az_z la n)
  refine B_putF dX2_init_17 ffX2_15 rfl (ap_get (i := 0) hn) (Nat.le_of_ble_eq_true rfl) (fun _ => rfl) (fun _ => rfl) (ap_set (i := 0) hn) ?_
  show AW l G mX2_init (d + 1) (az_F G Post) 3 24 20 [some (.ref n)] [] (sh ++ [(2, 0, [some (some (n + 1)), some (some (n + 2)), some none, some none, some none, none, none, none, none, none, none, none, none, none]), (100, 8, []), (100, 8, [])], (az_z sg n), az_z la n)
  refine A_aload_n dX2_init_20 rfl rfl ?_
  refine A_bipush (v := 8) dX2_init_21 (by decide) ?_
  refine N_newI (m := 8) (n := n + 3) (bc2 := 2) (bs2 := 16) (by rw [hn]; rfl) (az_zz sg (by omega)) (az_zzL la (by omega)) dX2_init_23 (by decide) rfl (by decide) (by decide) (by omega) ?_
  show AW l G mX2_init (d + 1) (az_F G Post) 2 16 25 [some (.ref n)] [.ref (n + 3), .ref n] (sh ++ [(2, 0, [some (some (n + 1)), some (some (n + 2)), some none, some none, some none, none, none, none, none, none, none, none, none, none]), (100, 8, []), (100, 8, []), (100, 8, [])], (az_z sg n), az_z la n)
  refine B_putF dX2_init_25 ffX2_18 rfl (ap_get (i := 0) hn) (Nat.le_of_ble_eq_true rfl) (fun _ => rfl) (fun _ => rfl) (ap_set (i := 0) hn) ?_
  show AW l G mX2_init (d + 1) (az_F G Post) 2 16 28 [some (.ref n)] [] (sh ++ [(2, 0, [some (some (n + 1)), some (some (n + 2)), some (some (n + 3)), some none, some none, none, none, none, none, none, none, none, none, none]), (100, 8, []), (100, 8, []), (100, 8, [])], (az_z sg n), az_z la n)
  refine A_aload_n dX2_init_28 rfl rfl ?_
  refine A_bipush (v := 8) dX2_init_29 (by decide) ?_
  refine N_newI (m := 8) (n := n + 4) (bc2 := 1) (bs2 := 8) (by rw [hn]; rfl) (az_zz sg (by omega)) (az_zzL la (by omega)) dX2_init_31 (by decide) rfl (by decide) (by decide) (by omega) ?_
  show AW l G mX2_init (d + 1) (az_F G Post) 1 8 33 [some (.ref n)] [.ref (n + 4), .ref n] (sh ++ [(2, 0, [some (some (n + 1)), some (some (n + 2)), some (some (n + 3)), some none, some none, none, none, none, none, none, none, none, none, none]), (100, 8, []), (100, 8, []), (100, 8, []), (100, 8, [])], (az_z sg n), az_z la n)
  refine B_putF dX2_init_33 ffX2_21 rfl (ap_get (i := 0) hn) (Nat.le_of_ble_eq_true rfl) (fun _ => rfl) (fun _ => rfl) (ap_set (i := 0) hn) ?_
  show AW l G mX2_init (d + 1) (az_F G Post) 1 8 36 [some (.ref n)] [] (sh ++ [(2, 0, [some (some (n + 1)), some (some (n + 2)), some (some (n + 3)), some (some (n + 4)), some none, none, none, none, none, none, none, none, none, none]), (100, 8, []), (100, 8, []), (100, 8, []), (100, 8, [])], (az_z sg n), az_z la n)
  refine A_aload_n dX2_init_36 rfl rfl ?_
  refine A_bipush (v := 8) dX2_init_37 (by decide) ?_
  refine N_newI (m := 8) (n := n + 5) (bc2 := 0) (bs2 := 0) (by rw [hn]; rfl) (az_zz sg (by omega)) (az_zzL la (by omega)) dX2_init_39 (by decide) rfl (by decide) (by decide) (by omega) ?_
  show AW l G mX2_init (d + 1) (az_F G Post) 0 0 41 [some (.ref n)] [.ref (n + 5), .ref n] (sh ++ [(2, 0, [some (some (n + 1)), some (some (n + 2)), some (some (n + 3)), some (some (n + 4)), some none, none, none, none, none, none, none, none, none, none]), (100, 8, []), (100, 8, []), (100, 8, []), (100, 8, []), (100, 8, [])], (az_z sg n), az_z la n)
  refine B_putF dX2_init_41 ffX2_24 rfl (ap_get (i := 0) hn) (Nat.le_of_ble_eq_true rfl) (fun _ => rfl) (fun _ => rfl) (ap_set (i := 0) hn) ?_
  show AW l G mX2_init (d + 1) (az_F G Post) 0 0 44 [some (.ref n)] [] (sh ++ [(2, 0, [some (some (n + 1)), some (some (n + 2)), some (some (n + 3)), some (some (n + 4)), some (some (n + 5)), none, none, none, none, none, none, none, none, none]), (100, 8, []), (100, 8, []), (100, 8, []), (100, 8, []), (100, 8, [])], (az_z sg n), az_z la n)
  refine A_aload_n dX2_init_44 rfl rfl ?_
  refine A_iconst (v := 0) dX2_init_45 (by decide) ?_
  refine B_putI dX2_init_46 fwX2_27 (ap_get (i := 0) hn) rfl ?_
  show AW l G mX2_init (d + 1) (az_F G Post) 0 0 49 [some (.ref n)] [] (sh ++ [(2, 0, [some (some (n + 1)), some (some (n + 2)), some (some (n + 3)), some (some (n + 4)), some (some (n + 5)), none, none, none, none, none, none, none, none, none]), (100, 8, []), (100, 8, []), (100, 8, []), (100, 8, []), (100, 8, [])], (az_w (az_z sg n) n 5 0), az_z la n)
  refine A_aload_n dX2_init_49 rfl rfl ?_
  refine A_bipush (v := 25) dX2_init_50 (by decide) ?_
  refine B_putI dX2_init_52 fwX2_31 (ap_get (i := 0) hn) rfl ?_
  show AW l G mX2_init (d + 1) (az_F G Post) 0 0 55 [some (.ref n)] [] (sh ++ [(2, 0, [some (some (n + 1)), some (some (n + 2)), some (some (n + 3)), some (some (n + 4)), some (some (n + 5)), none, none, none, none, none, none, none, none, none]), (100, 8, []), (100, 8, []), (100, 8, []), (100, 8, []), (100, 8, [])], (az_w (az_w (az_z sg n) n 5 0) n 6 25), az_z la n)
  refine A_aload_n dX2_init_55 rfl rfl ?_
  refine A_iconst (v := 1) dX2_init_56 (by decide) ?_
  refine B_putI dX2_init_57 fwX2_34 (ap_get (i := 0) hn) rfl ?_
  show AW l G mX2_init (d + 1) (az_F G Post) 0 0 60 [some (.ref n)] [] (sh ++ [(2, 0, [some (some (n + 1)), some (some (n + 2)), some (some (n + 3)), some (some (n + 4)), some (some (n + 5)), none, none, none, none, none, none, none, none, none]), (100, 8, []), (100, 8, []), (100, 8, []), (100, 8, []), (100, 8, [])], (az_w (az_w (az_w (az_z sg n) n 5 0) n 6 25) n 7 1), az_z la n)
  refine A_aload_n dX2_init_60 rfl rfl ?_
  refine A_iconst (v := 0) dX2_init_61 (by decide) ?_
  refine B_putI dX2_init_62 fwX2_37 (ap_get (i := 0) hn) rfl ?_
  show AW l G mX2_init (d + 1) (az_F G Post) 0 0 65 [some (.ref n)] [] (sh ++ [(2, 0, [some (some (n + 1)), some (some (n + 2)), some (some (n + 3)), some (some (n + 4)), some (some (n + 5)), none, none, none, none, none, none, none, none, none]), (100, 8, []), (100, 8, []), (100, 8, []), (100, 8, []), (100, 8, [])], (az_w (az_w (az_w (az_w (az_z sg n) n 5 0) n 6 25) n 7 1) n 8 0), az_z la n)
  refine A_aload_n dX2_init_65 rfl rfl ?_
  refine A_iconst (v := (-1)) dX2_init_66 (by decide) ?_
  refine B_putI dX2_init_67 fwX2_40 (ap_get (i := 0) hn) rfl ?_
  show AW l G mX2_init (d + 1) (az_F G Post) 0 0 70 [some (.ref n)] [] (sh ++ [(2, 0, [some (some (n + 1)), some (some (n + 2)), some (some (n + 3)), some (some (n + 4)), some (some (n + 5)), none, none, none, none, none, none, none, none, none]), (100, 8, []), (100, 8, []), (100, 8, []), (100, 8, []), (100, 8, [])], (az_w (az_w (az_w (az_w (az_w (az_z sg n) n 5 0) n 6 25) n 7 1) n 8 0) n 9 (-1)), az_z la n)
  refine A_aload_n dX2_init_70 rfl rfl ?_
  refine A_iconst (v := 2) dX2_init_71 (by decide) ?_
  refine B_putI dX2_init_72 fwX2_43 (ap_get (i := 0) hn) rfl ?_
  show AW l G mX2_init (d + 1) (az_F G Post) 0 0 75 [some (.ref n)] [] (sh ++ [(2, 0, [some (some (n + 1)), some (some (n + 2)), some (some (n + 3)), some (some (n + 4)), some (some (n + 5)), none, none, none, none, none, none, none, none, none]), (100, 8, []), (100, 8, []), (100, 8, []), (100, 8, []), (100, 8, [])], (az_w (az_w (az_w (az_w (az_w (az_w (az_z sg n) n 5 0) n 6 25) n 7 1) n 8 0) n 9 (-1)) n 10 2), az_z la n)
  refine A_aload_n dX2_init_75 rfl rfl ?_
  refine A_iconst (v := 1) dX2_init_76 (by decide) ?_
  refine B_putI dX2_init_77 fwX2_46 (ap_get (i := 0) hn) rfl ?_
  show AW l G mX2_init (d + 1) (az_F G Post) 0 0 80 [some (.ref n)] [] (sh ++ [(2, 0, [some (some (n + 1)), some (some (n + 2)), some (some (n + 3)), some (some (n + 4)), some (some (n + 5)), none, none, none, none, none, none, none, none, none]), (100, 8, []), (100, 8, []), (100, 8, []), (100, 8, []), (100, 8, [])], (az_w (az_w (az_w (az_w (az_w (az_w (az_w (az_z sg n) n 5 0) n 6 25) n 7 1) n 8 0) n 9 (-1)) n 10 2) n 11 1), az_z la n)
  refine A_aload_n dX2_init_80 rfl rfl ?_
  refine A_iconst (v := 0) dX2_init_81 (by decide) ?_
  refine B_putI dX2_init_82 fwX2_49 (ap_get (i := 0) hn) rfl ?_
  show AW l G mX2_init (d + 1) (az_F G Post) 0 0 85 [some (.ref n)] [] (sh ++ [(2, 0, [some (some (n + 1)), some (some (n + 2)), some (some (n + 3)), some (some (n + 4)), some (some (n + 5)), none, none, none, none, none, none, none, none, none]), (100, 8, []), (100, 8, []), (100, 8, []), (100, 8, []), (100, 8, [])], (az_w (az_w (az_w (az_w (az_w (az_w (az_w (az_w (az_z sg n) n 5 0) n 6 25) n 7 1) n 8 0) n 9 (-1)) n 10 2) n 11 1) n 12 0), az_z la n)
  refine A_aload_n dX2_init_85 rfl rfl ?_
  refine A_iconst (v := (-1)) dX2_init_86 (by decide) ?_
  refine B_putI dX2_init_87 fwX2_52 (ap_get (i := 0) hn) rfl ?_
  show AW l G mX2_init (d + 1) (az_F G Post) 0 0 90 [some (.ref n)] [] (sh ++ [(2, 0, [some (some (n + 1)), some (some (n + 2)), some (some (n + 3)), some (some (n + 4)), some (some (n + 5)), none, none, none, none, none, none, none, none, none]), (100, 8, []), (100, 8, []), (100, 8, []), (100, 8, []), (100, 8, [])], (az_w (az_w (az_w (az_w (az_w (az_w (az_w (az_w (az_w (az_z sg n) n 5 0) n 6 25) n 7 1) n 8 0) n 9 (-1)) n 10 2) n 11 1) n 12 0) n 13 (-1)), az_z la n)
  exact A_vret dX2_init_90 rfl (hP _ _ ⟨rfl, rfl⟩)
theorem dfX0 : az_df 3 tyX0 = [some none, some none, none] := rfl
def sgB (sg : Nat → Nat → Int32) (n : Nat) : Nat → Nat → Int32 := (az_w (az_z sg n) n 2 0)
theorem z_sgB {sg : Nat → Nat → Int32} {n k : Nat} (h : n < k) : az_z (sgB sg n) k = sgB sg n := (az_zw (by omega) (az_zz sg (by omega)))
set_option maxHeartbeats 1000000 in
set_option maxRecDepth 100000 in
theorem i_X0 (l : Launch) (G : az_Gh) (d : Nat) (sh : List az_Sh) (sg : Nat → Nat → Int32) (la : Nat → Nat → Int64) (n : Nat) (hn : sh.length = n) (hl : n < 900) : AM l G (d + 1) mX0_init [.ref n] (sh ++ [(0, 0, [some none, some none, none])], az_z sg n, az_z la n) 2 264 (fun r S1 => r = none ∧ S1 = (sh ++ lyB n, sgB sg n, az_z la n)) := by
  refine az_ab knX0_init (Nat.le_of_ble_eq_true rfl) rfl (fun Post hP => ?_)
  show AW l G mX0_init (d + 1) (az_F G Post) 2 264 0 [some (.ref n)] [] (sh ++ [(0, 0, [some none, some none, none])], az_z sg n, az_z la n)
  refine A_aload_n dX0_init_0 rfl rfl ?_
  refine A_oinit dX0_init_1 mlX0_3 w_oi1 w_oi2 (by omega) (Nat.le_of_ble_eq_true rfl) ?_
  refine A_aload_n dX0_init_4 rfl rfl ?_
  refine A_bipush (v := 8) dX0_init_5 (by decide) ?_
  refine N_newI (m := 8) (n := n + 1) (bc2 := 1) (bs2 := 256) (by rw [hn]; rfl) (az_zz sg (by omega)) (az_zzL la (by omega)) dX0_init_7 (by decide) rfl (by decide) (by decide) (by omega) ?_
  show AW l G mX0_init (d + 1) (az_F G Post) 1 256 9 [some (.ref n)] [.ref (n + 1), .ref n] (sh ++ [(0, 0, [some none, some none, none]), (100, 8, [])], (az_z sg n), az_z la n)
  refine B_putF dX0_init_9 ffX0_9 rfl (ap_get (i := 0) hn) (Nat.le_of_ble_eq_true rfl) (fun _ => rfl) (fun _ => rfl) (ap_set (i := 0) hn) ?_
  show AW l G mX0_init (d + 1) (az_F G Post) 1 256 12 [some (.ref n)] [] (sh ++ [(0, 0, [some (some (n + 1)), some none, none]), (100, 8, [])], (az_z sg n), az_z la n)
  refine A_aload_n dX0_init_12 rfl rfl ?_
  refine A_sipush (v := 256) dX0_init_13 (by decide) ?_
  refine N_newI (m := 256) (n := n + 2) (bc2 := 0) (bs2 := 0) (by rw [hn]; rfl) (az_zz sg (by omega)) (az_zzL la (by omega)) dX0_init_16 (by decide) rfl (by decide) (by decide) (by omega) ?_
  show AW l G mX0_init (d + 1) (az_F G Post) 0 0 18 [some (.ref n)] [.ref (n + 2), .ref n] (sh ++ [(0, 0, [some (some (n + 1)), some none, none]), (100, 8, []), (100, 256, [])], (az_z sg n), az_z la n)
  refine B_putF dX0_init_18 ffX0_15 rfl (ap_get (i := 0) hn) (Nat.le_of_ble_eq_true rfl) (fun _ => rfl) (fun _ => rfl) (ap_set (i := 0) hn) ?_
  show AW l G mX0_init (d + 1) (az_F G Post) 0 0 21 [some (.ref n)] [] (sh ++ [(0, 0, [some (some (n + 1)), some (some (n + 2)), none]), (100, 8, []), (100, 256, [])], (az_z sg n), az_z la n)
  refine A_aload_n dX0_init_21 rfl rfl ?_
  refine A_iconst (v := 0) dX0_init_22 (by decide) ?_
  refine B_putI dX0_init_23 fwX0_18 (ap_get (i := 0) hn) rfl ?_
  show AW l G mX0_init (d + 1) (az_F G Post) 0 0 26 [some (.ref n)] [] (sh ++ [(0, 0, [some (some (n + 1)), some (some (n + 2)), none]), (100, 8, []), (100, 256, [])], (az_w (az_z sg n) n 2 0), az_z la n)
  exact A_vret dX0_init_26 rfl (hP _ _ ⟨rfl, rfl⟩)
theorem dfX5 : az_df 5 tyX5 = [some none, none, none, none, none] := rfl
def sgP (sg : Nat → Nat → Int32) (n : Nat) : Nat → Nat → Int32 := (az_w (az_w (az_w (az_w (az_z sg n) n 1 0) n 2 0) n 3 0) n 4 0)
theorem z_sgP {sg : Nat → Nat → Int32} {n k : Nat} (h : n < k) : az_z (sgP sg n) k = sgP sg n := (az_zw (by omega) (az_zw (by omega) (az_zw (by omega) (az_zw (by omega) (az_zz sg (by omega))))))
set_option maxHeartbeats 1000000 in
set_option maxRecDepth 100000 in
theorem i_X5 (l : Launch) (G : az_Gh) (d : Nat) (sh : List az_Sh) (sg : Nat → Nat → Int32) (la : Nat → Nat → Int64) (n : Nat) (hn : sh.length = n) (hl : n < 900) : AM l G (d + 1) mX5_init [.ref n] (sh ++ [(5, 0, [some none, none, none, none, none])], az_z sg n, az_z la n) 1 250 (fun r S1 => r = none ∧ S1 = (sh ++ lyP n, sgP sg n, az_z la n)) := by
  refine az_ab knX5_init (Nat.le_of_ble_eq_true rfl) rfl (fun Post hP => ?_)
  show AW l G mX5_init (d + 1) (az_F G Post) 1 250 0 [some (.ref n)] [] (sh ++ [(5, 0, [some none, none, none, none, none])], az_z sg n, az_z la n)
  refine A_aload_n dX5_init_0 rfl rfl ?_
  refine A_oinit dX5_init_1 mlX5_3 w_oi1 w_oi2 (by omega) (Nat.le_of_ble_eq_true rfl) ?_
  refine A_aload_n dX5_init_4 rfl rfl ?_
  refine A_sipush (v := 250) dX5_init_5 (by decide) ?_
  refine N_newI (m := 250) (n := n + 1) (bc2 := 0) (bs2 := 0) (by rw [hn]; rfl) (az_zz sg (by omega)) (az_zzL la (by omega)) dX5_init_8 (by decide) rfl (by decide) (by decide) (by omega) ?_
  show AW l G mX5_init (d + 1) (az_F G Post) 0 0 10 [some (.ref n)] [.ref (n + 1), .ref n] (sh ++ [(5, 0, [some none, none, none, none, none]), (100, 250, [])], (az_z sg n), az_z la n)
  refine B_putF dX5_init_10 ffX5_9 rfl (ap_get (i := 0) hn) (Nat.le_of_ble_eq_true rfl) (fun _ => rfl) (fun _ => rfl) (ap_set (i := 0) hn) ?_
  show AW l G mX5_init (d + 1) (az_F G Post) 0 0 13 [some (.ref n)] [] (sh ++ [(5, 0, [some (some (n + 1)), none, none, none, none]), (100, 250, [])], (az_z sg n), az_z la n)
  refine A_aload_n dX5_init_13 rfl rfl ?_
  refine A_iconst (v := 0) dX5_init_14 (by decide) ?_
  refine B_putI dX5_init_15 fwX5_15 (ap_get (i := 0) hn) rfl ?_
  show AW l G mX5_init (d + 1) (az_F G Post) 0 0 18 [some (.ref n)] [] (sh ++ [(5, 0, [some (some (n + 1)), none, none, none, none]), (100, 250, [])], (az_w (az_z sg n) n 1 0), az_z la n)
  refine A_aload_n dX5_init_18 rfl rfl ?_
  refine A_iconst (v := 0) dX5_init_19 (by decide) ?_
  refine B_putI dX5_init_20 fwX5_19 (ap_get (i := 0) hn) rfl ?_
  show AW l G mX5_init (d + 1) (az_F G Post) 0 0 23 [some (.ref n)] [] (sh ++ [(5, 0, [some (some (n + 1)), none, none, none, none]), (100, 250, [])], (az_w (az_w (az_z sg n) n 1 0) n 2 0), az_z la n)
  refine A_aload_n dX5_init_23 rfl rfl ?_
  refine A_iconst (v := 0) dX5_init_24 (by decide) ?_
  refine B_putI dX5_init_25 fwX5_22 (ap_get (i := 0) hn) rfl ?_
  show AW l G mX5_init (d + 1) (az_F G Post) 0 0 28 [some (.ref n)] [] (sh ++ [(5, 0, [some (some (n + 1)), none, none, none, none]), (100, 250, [])], (az_w (az_w (az_w (az_z sg n) n 1 0) n 2 0) n 3 0), az_z la n)
  refine A_aload_n dX5_init_28 rfl rfl ?_
  refine A_iconst (v := 0) dX5_init_29 (by decide) ?_
  refine B_putI dX5_init_30 fwX5_25 (ap_get (i := 0) hn) rfl ?_
  show AW l G mX5_init (d + 1) (az_F G Post) 0 0 33 [some (.ref n)] [] (sh ++ [(5, 0, [some (some (n + 1)), none, none, none, none]), (100, 250, [])], (az_w (az_w (az_w (az_w (az_z sg n) n 1 0) n 2 0) n 3 0) n 4 0), az_z la n)
  exact A_vret dX5_init_33 rfl (hP _ _ ⟨rfl, rfl⟩)
theorem dfX4 : az_df 4 tyX4 = [some none, none, none, none] := rfl
def sgS (sg : Nat → Nat → Int32) (n : Nat) : Nat → Nat → Int32 := (az_w (az_w (az_w (az_z sg n) n 1 (-1)) n 2 0) n 3 (-1))
theorem z_sgS {sg : Nat → Nat → Int32} {n k : Nat} (h : n < k) : az_z (sgS sg n) k = sgS sg n := (az_zw (by omega) (az_zw (by omega) (az_zw (by omega) (az_zz sg (by omega)))))
set_option maxHeartbeats 1000000 in
set_option maxRecDepth 100000 in
theorem i_X4 (l : Launch) (G : az_Gh) (d : Nat) (sh : List az_Sh) (sg : Nat → Nat → Int32) (la : Nat → Nat → Int64) (n : Nat) (hn : sh.length = n) (hl : n < 900) : AM l G (d + 1) mX4_init [.ref n] (sh ++ [(4, 0, [some none, none, none, none])], az_z sg n, az_z la n) 1 40 (fun r S1 => r = none ∧ S1 = (sh ++ lyS n, sgS sg n, az_z la n)) := by
  refine az_ab knX4_init (Nat.le_of_ble_eq_true rfl) rfl (fun Post hP => ?_)
  show AW l G mX4_init (d + 1) (az_F G Post) 1 40 0 [some (.ref n)] [] (sh ++ [(4, 0, [some none, none, none, none])], az_z sg n, az_z la n)
  refine A_aload_n dX4_init_0 rfl rfl ?_
  refine A_oinit dX4_init_1 mlX4_3 w_oi1 w_oi2 (by omega) (Nat.le_of_ble_eq_true rfl) ?_
  refine A_aload_n dX4_init_4 rfl rfl ?_
  refine A_bipush (v := 40) dX4_init_5 (by decide) ?_
  refine N_newL (m := 40) (n := n + 1) (bc2 := 0) (bs2 := 0) (by rw [hn]; rfl) (az_zz sg (by omega)) (az_zzL la (by omega)) dX4_init_7 (by decide) rfl (by decide) (by decide) (by omega) ?_
  show AW l G mX4_init (d + 1) (az_F G Post) 0 0 9 [some (.ref n)] [.ref (n + 1), .ref n] (sh ++ [(4, 0, [some none, none, none, none]), (101, 40, [])], (az_z sg n), az_z la n)
  refine B_putF dX4_init_9 ffX4_9 rfl (ap_get (i := 0) hn) (Nat.le_of_ble_eq_true rfl) (fun _ => rfl) (fun _ => rfl) (ap_set (i := 0) hn) ?_
  show AW l G mX4_init (d + 1) (az_F G Post) 0 0 12 [some (.ref n)] [] (sh ++ [(4, 0, [some (some (n + 1)), none, none, none]), (101, 40, [])], (az_z sg n), az_z la n)
  refine A_aload_n dX4_init_12 rfl rfl ?_
  refine A_iconst (v := (-1)) dX4_init_13 (by decide) ?_
  refine B_putI dX4_init_14 fwX4_15 (ap_get (i := 0) hn) rfl ?_
  show AW l G mX4_init (d + 1) (az_F G Post) 0 0 17 [some (.ref n)] [] (sh ++ [(4, 0, [some (some (n + 1)), none, none, none]), (101, 40, [])], (az_w (az_z sg n) n 1 (-1)), az_z la n)
  refine A_aload_n dX4_init_17 rfl rfl ?_
  refine A_iconst (v := 0) dX4_init_18 (by decide) ?_
  refine B_putI dX4_init_19 fwX4_19 (ap_get (i := 0) hn) rfl ?_
  show AW l G mX4_init (d + 1) (az_F G Post) 0 0 22 [some (.ref n)] [] (sh ++ [(4, 0, [some (some (n + 1)), none, none, none]), (101, 40, [])], (az_w (az_w (az_z sg n) n 1 (-1)) n 2 0), az_z la n)
  refine A_aload_n dX4_init_22 rfl rfl ?_
  refine A_iconst (v := (-1)) dX4_init_23 (by decide) ?_
  refine B_putI dX4_init_24 fwX4_22 (ap_get (i := 0) hn) rfl ?_
  show AW l G mX4_init (d + 1) (az_F G Post) 0 0 27 [some (.ref n)] [] (sh ++ [(4, 0, [some (some (n + 1)), none, none, none]), (101, 40, [])], (az_w (az_w (az_w (az_z sg n) n 1 (-1)) n 2 0) n 3 (-1)), az_z la n)
  exact A_vret dX4_init_27 rfl (hP _ _ ⟨rfl, rfl⟩)
