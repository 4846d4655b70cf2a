theorem zrm_nn : ∀ t, t < 256 → ∀ j, j < 8 → 0 ≤ nI t &&& (((1 : Int32) <<< (nI j &&& 31)) ^^^ (-1)) := by decide +kernel
theorem zrs_1 {B : Nat → Int32} {x y : Int32} {t j : Nat} {R : Nat → Int32} (h : zmy B x y t j = true) : zrs B x y t R (j + 1) = zrs B x y t R j + R (zrm t j) := by
  show zsI _ j + (if _ then _ else _) = _
  rw [if_pos h]; rfl
theorem zrs_0 {B : Nat → Int32} {x y : Int32} {t j : Nat} {R : Nat → Int32} (h : ¬ zmy B x y t j = true) : zrs B x y t R (j + 1) = zrs B x y t R j + 0 := by
  show zsI _ j + (if _ then _ else _) = _
  rw [if_neg h]; rfl
theorem zmy_t {B : Nat → Int32} {x y : Int32} {t j : Nat} (h1 : (nI t >>> (nI j &&& 31)) &&& 1 = 1) (h2 : B j &&& nI t = 0) (h3 : ¬ (nI j = x ∧ (nI t >>> (y &&& 31)) &&& 1 = 1)) : zmy B x y t j = true := by
  unfold zmy
  rw [decide_eq_true h1, decide_eq_true h2, decide_eq_false h3]; rfl
theorem zmy_1 {B : Nat → Int32} {x y : Int32} {t j : Nat} (h : ¬ (nI t >>> (nI j &&& 31)) &&& 1 = 1) : ¬ zmy B x y t j = true := by
  unfold zmy
  rw [decide_eq_false h, Bool.false_and]; decide
theorem zmy_2 {B : Nat → Int32} {x y : Int32} {t j : Nat} (h : ¬ B j &&& nI t = 0) : ¬ zmy B x y t j = true := by
  unfold zmy
  rw [decide_eq_false h, Bool.false_and, Bool.and_false]; decide
theorem zmy_3 {B : Nat → Int32} {x y : Int32} {t j : Nat} (h : nI j = x ∧ (nI t >>> (y &&& 31)) &&& 1 = 1) : ¬ zmy B x y t j = true := by
  unfold zmy
  rw [decide_eq_true h, Bool.not_true, Bool.and_false, Bool.and_false]; decide
theorem zmy_b {B : Nat → Int32} {x y : Int32} {t j : Nat} (h : zmy B x y t j = true) : (nI t >>> (nI j &&& 31)) &&& 1 = 1 := of_decide_eq_true (Bool.and_eq_true_iff.mp h).1
set_option maxHeartbeats 1000000 in
set_option maxRecDepth 100000 in
theorem r_countOrders (l : Launch) (G : az_Gh) (d : Nat) (sh : List az_Sh) (u : Nat → Nat → Int32) (la : Nat → Nat → Int64) (kp tr : Option Nat) (c : CT) (B : Nat → Int32) (x y : Int32) (hM : az_at sh 60 (lyM 60 kp tr)) (hO : cOk c) (hb : ∀ j, j < cN c → u 84 j = B j) : FM l G d mX8_countOrders [.ref 60, .int x, .int y] (sh, mput u 60 c, la) (some (.int (zrt B x y (cN c) (u 85) (2 ^ cN c - 1) (2 ^ cN c - 1)))) (sh, (mput (va_up u 85 (zrt B x y (cN c) (u 85) (2 ^ cN c - 1))) 60 c), la) := by
  refine az_fm knX8_countOrders (Nat.le_of_ble_eq_true rfl) rfl (fun Post hP => ?_)
  show AW l G mX8_countOrders d (az_F G Post) 0 0 0 [some (.ref 60), some (.int x), some (.int y), none, none, none, none] [] (sh, mput u 60 c, la)
  have h8 := hO.2
  have hpw : (2 : Nat) ^ cN c ≤ 2 ^ 8 := Nat.pow_le_pow_right (by decide) h8
  have hpp := Nat.two_pow_pos (cN c)
  refine A_iconst (v := 1) dX8_countOrders_0 (by decide) ?_
  refine A_aload_n dX8_countOrders_1 rfl rfl ?_
  refine B_getV (nI (cN c)) dX8_countOrders_2 flX8_88 (hM 0 _ rfl) rfl ((mr_14 _ _ _).trans hO.1) ?_
  refine A_ishl dX8_countOrders_5 ?_
  refine A_iconst (v := 1) dX8_countOrders_6 (by decide) ?_
  refine A_isub dX8_countOrders_7 ?_
  refine B_top (show (1 : Int32) <<< (nI (cN c) &&& 31) - 1 = nI (2 ^ cN c - 1) by rw [sh1 h8]; exact nI_pm _) ?_
  refine A_istore_n (lo2 := [some (.ref 60), some (.int x), some (.int y), some (.int (nI (2 ^ cN c - 1))), none, none, none]) dX8_countOrders_8 rfl (by decide) rfl ?_
  refine A_aload_n dX8_countOrders_9 rfl rfl ?_
  refine B_getR (r := 85) dX8_countOrders_10 flX8_80 (hM 0 _ rfl) rfl ?_
  refine A_iconst (v := 0) dX8_countOrders_13 (by decide) ?_
  refine A_iconst (v := 1) dX8_countOrders_14 (by decide) ?_
  refine B_iast (i := 0) dX8_countOrders_15 (hM 25 _ rfl) (by decide) rfl (by decide) ?_
  refine B_sg (show _ = (mput (va_up u 85 (zrt B x y (cN c) (u 85) 0)) 60 c) from (mput_wk (by decide) (by decide)).trans rfl) ?_
  refine A_iconst (v := 1) dX8_countOrders_16 (by decide) ?_
  refine A_istore (lo2 := [some (.ref 60), some (.int x), some (.int y), some (.int (nI (2 ^ cN c - 1))), some (.int (nI (0 + 1))), none, none]) dX8_countOrders_17 (by decide) rfl ?_
  have loop : ∀ q k : Nat, k + q = (2 ^ cN c - 1) → AW l G mX8_countOrders d (az_F G Post) 0 0 19 [some (.ref 60), some (.int x), some (.int y), some (.int (nI (2 ^ cN c - 1))), some (.int (nI (k + 1))), none, none] [] (sh, (mput (va_up u 85 (zrt B x y (cN c) (u 85) k)) 60 c), la) := by
    intro q
    induction q with
    | zero =>
      intro k hk
      have ek : k = (2 ^ cN c - 1) := by omega
      subst ek
      refine A_iload dX8_countOrders_19 rfl ?_
      refine A_iload_n dX8_countOrders_21 rfl rfl ?_
      refine A_icmp_gt (tgt := 137) dX8_countOrders_22 rfl (fun h_1 => ?_) (fun h_1 => ?_)
      · skip
        refine A_aload_n dX8_countOrders_137 rfl rfl ?_
        refine B_getR (r := 85) dX8_countOrders_138 flX8_80 (hM 0 _ rfl) rfl ?_
        refine A_iload_n dX8_countOrders_141 rfl rfl ?_
        refine B_ialdV (i := (2 ^ cN c - 1)) ((zrt B x y (cN c) (u 85) (2 ^ cN c - 1)) (2 ^ cN c - 1)) dX8_countOrders_142 (hM 25 _ rfl) (by decide) rfl (by omega) ((congrFun (mput_ne (by decide) (by decide)) _).trans (congrFun az_up_self _)) ?_
        exact A_iret dX8_countOrders_143 rfl (az_pi hP rfl rfl)
      · exact absurd (nI_lt (by omega) (by omega)) h_1
    | succ q ih =>
      intro k hk
      refine A_iload dX8_countOrders_19 rfl ?_
      refine A_iload_n dX8_countOrders_21 rfl rfl ?_
      refine A_icmp_gt (tgt := 137) dX8_countOrders_22 rfl (fun h_1 => ?_) (fun h_1 => ?_)
      · exact absurd h_1 (nI_nlt (by omega) (by omega))
      · skip
        have ht : k + 1 < 256 := by omega
        refine A_aload_n dX8_countOrders_25 rfl rfl ?_
        refine B_getR (r := 85) dX8_countOrders_26 flX8_80 (hM 0 _ rfl) rfl ?_
        refine A_iload dX8_countOrders_29 rfl ?_
        refine A_iconst (v := 0) dX8_countOrders_31 (by decide) ?_
        refine B_iast (i := k + 1) dX8_countOrders_32 (hM 25 _ rfl) (by decide) rfl (by omega) ?_
        refine B_sg (show _ = (mput (va_up u 85 (va_up (zrt B x y (cN c) (u 85) k) (k + 1) (zrs B x y (k + 1) (zrt B x y (cN c) (u 85) k) 0))) 60 c) from (mput_wk (by decide) (by decide)).trans (congrArg (fun z => mput z 60 c) (az_w_up _ _ _ _ _))) ?_
        refine A_iconst (v := 0) dX8_countOrders_33 (by decide) ?_
        refine A_istore (lo2 := [some (.ref 60), some (.int x), some (.int y), some (.int (nI (2 ^ cN c - 1))), some (.int (nI (k + 1))), some (.int (nI 0)), none]) dX8_countOrders_34 (by decide) rfl ?_
        have inner : ∀ p j : Nat, j + p = cN c → AW l G mX8_countOrders d (az_F G Post) 0 0 36 [some (.ref 60), some (.int x), some (.int y), some (.int (nI (2 ^ cN c - 1))), some (.int (nI (k + 1))), some (.int (nI j)), none] [] (sh, (mput (va_up u 85 (va_up (zrt B x y (cN c) (u 85) k) (k + 1) (zrs B x y (k + 1) (zrt B x y (cN c) (u 85) k) j))) 60 c), la) := by
          intro p
          induction p with
          | zero =>
            intro j hj
            have ej : j = cN c := by omega
            subst ej
            refine A_iload dX8_countOrders_36 rfl ?_
            refine A_aload_n dX8_countOrders_38 rfl rfl ?_
            refine B_getV (nI (cN c)) dX8_countOrders_39 flX8_88 (hM 0 _ rfl) rfl ((mr_14 _ _ _).trans hO.1) ?_
            refine A_icmp_ge (tgt := 131) dX8_countOrders_42 rfl (fun h_2 => ?_) (fun h_2 => ?_)
            · skip
              refine A_iinc (v := nI (k + 1 + 1)) (lo2 := [some (.ref 60), some (.int x), some (.int y), some (.int (nI (2 ^ cN c - 1))), some (.int (nI (k + 1 + 1))), some (.int (nI (cN c))), none]) dX8_countOrders_131 rfl (nI_1 _) (by decide) rfl ?_
              refine A_goto (tgt := 19) dX8_countOrders_134 rfl ?_
              refine A_forget (lo2 := [some (.ref 60), some (.int x), some (.int y), some (.int (nI (2 ^ cN c - 1))), some (.int (nI (k + 1 + 1))), none, none]) ⟨rfl, rfl, rfl, rfl, rfl, trivial⟩ ?_
              exact ih (k + 1) (by omega)
            · exact absurd (Int32.le_refl _) h_2
          | succ p ih2 =>
            intro j hj
            refine A_iload dX8_countOrders_36 rfl ?_
            refine A_aload_n dX8_countOrders_38 rfl rfl ?_
            refine B_getV (nI (cN c)) dX8_countOrders_39 flX8_88 (hM 0 _ rfl) rfl ((mr_14 _ _ _).trans hO.1) ?_
            refine A_icmp_ge (tgt := 131) dX8_countOrders_42 rfl (fun h_2 => ?_) (fun h_2 => ?_)
            · exact absurd h_2 (nI_ge (by omega) (by omega))
            · skip
              have put : ∀ v : Int32, zrs B x y (k + 1) (zrt B x y (cN c) (u 85) k) (j + 1) = zrs B x y (k + 1) (zrt B x y (cN c) (u 85) k) j + v → ∀ m : Int32, AW l G mX8_countOrders d (az_F G Post) 0 0 123 [some (.ref 60), some (.int x), some (.int y), some (.int (nI (2 ^ cN c - 1))), some (.int (nI (k + 1))), some (.int (nI j)), some (.int m)] [.int v, .int (zrs B x y (k + 1) (zrt B x y (cN c) (u 85) k) j), .int (nI (k + 1)), .ref 85] (sh, (mput (va_up u 85 (va_up (zrt B x y (cN c) (u 85) k) (k + 1) (zrs B x y (k + 1) (zrt B x y (cN c) (u 85) k) j))) 60 c), la) := by
                intro v hv m
                refine A_iadd dX8_countOrders_123 ?_
                refine B_top hv.symm ?_
                refine B_iast (i := k + 1) dX8_countOrders_124 (hM 25 _ rfl) (by decide) rfl (by omega) ?_
                refine B_sg (show _ = (mput (va_up u 85 (va_up (zrt B x y (cN c) (u 85) k) (k + 1) (zrs B x y (k + 1) (zrt B x y (cN c) (u 85) k) (j + 1)))) 60 c) from (mput_wk (by decide) (by decide)).trans (congrArg (fun z => mput z 60 c) ((az_w_up _ _ _ _ _).trans (congrArg (va_up u 85) (az_up_up _ _ _ _))))) ?_
                refine A_iinc (v := nI (j + 1)) (lo2 := [some (.ref 60), some (.int x), some (.int y), some (.int (nI (2 ^ cN c - 1))), some (.int (nI (k + 1))), some (.int (nI (j + 1))), some (.int m)]) dX8_countOrders_125 rfl (nI_1 _) (by decide) rfl ?_
                refine A_goto (tgt := 36) dX8_countOrders_128 rfl ?_
                refine A_forget (lo2 := [some (.ref 60), some (.int x), some (.int y), some (.int (nI (2 ^ cN c - 1))), some (.int (nI (k + 1))), some (.int (nI (j + 1))), none]) ⟨rfl, rfl, rfl, rfl, rfl, rfl, trivial⟩ ?_
                exact ih2 (j + 1) (by omega)
              have tail : ∀ v : Int32, v = b2i (zmy B x y (k + 1) j = true) → AW l G mX8_countOrders d (az_F G Post) 0 0 90 [some (.ref 60), some (.int x), some (.int y), some (.int (nI (2 ^ cN c - 1))), some (.int (nI (k + 1))), some (.int (nI j)), none] [.int v] (sh, (mput (va_up u 85 (va_up (zrt B x y (cN c) (u 85) k) (k + 1) (zrs B x y (k + 1) (zrt B x y (cN c) (u 85) k) j))) 60 c), la) := by
                intro v hv
                refine A_istore (lo2 := [some (.ref 60), some (.int x), some (.int y), some (.int (nI (2 ^ cN c - 1))), some (.int (nI (k + 1))), some (.int (nI j)), some (.int v)]) dX8_countOrders_90 (by decide) rfl ?_
                refine A_aload_n dX8_countOrders_92 rfl rfl ?_
                refine B_getR (r := 85) dX8_countOrders_93 flX8_80 (hM 0 _ rfl) rfl ?_
                refine A_iload dX8_countOrders_96 rfl ?_
                refine A_dup2 dX8_countOrders_98 rfl rfl ?_
                refine B_ialdV (i := k + 1) (zrs B x y (k + 1) (zrt B x y (cN c) (u 85) k) j) dX8_countOrders_99 (hM 25 _ rfl) (by decide) rfl (by omega) ((congrFun (mput_ne (by decide) (by decide)) _).trans ((congrFun az_up_self _).trans az_up_self)) ?_
                refine A_iload dX8_countOrders_100 rfl ?_
                refine A_if_eq (tgt := 122) dX8_countOrders_102 rfl (fun h_3 => ?_) (fun h_3 => ?_)
                · skip
                  have hz := b2i_0.mp (hv.symm.trans h_3)
                  refine A_iconst (v := 0) dX8_countOrders_122 (by decide) ?_
                  exact put 0 (zrs_0 hz) v
                · skip
                  have hz := b2i_n.mp (hv ▸ h_3)
                  have hlt := zrm_lt (k + 1) ht j (by omega) (zmy_b hz)
                  refine A_aload_n dX8_countOrders_105 rfl rfl ?_
                  refine B_getR (r := 85) dX8_countOrders_106 flX8_80 (hM 0 _ rfl) rfl ?_
                  refine A_iload dX8_countOrders_109 rfl ?_
                  refine A_iconst (v := 1) dX8_countOrders_111 (by decide) ?_
                  refine A_iload dX8_countOrders_112 rfl ?_
                  refine A_ishl dX8_countOrders_114 ?_
                  refine A_iconst (v := -1) dX8_countOrders_115 (by decide) ?_
                  refine A_ixor dX8_countOrders_116 ?_
                  refine A_iand dX8_countOrders_117 ?_
                  refine B_ialdV (i := zrm (k + 1) j) ((zrt B x y (cN c) (u 85) k) (zrm (k + 1) j)) dX8_countOrders_118 (hM 25 _ rfl) (by decide) (nI_nat (zrm_nn (k + 1) ht j (by omega))) (by omega) ((congrFun (mput_ne (by decide) (by decide)) _).trans ((congrFun az_up_self _).trans (az_up_ne (by omega)))) ?_
                  refine A_goto (tgt := 123) dX8_countOrders_119 rfl ?_
                  exact put _ (zrs_1 hz) v
              refine A_iload dX8_countOrders_45 rfl ?_
              refine A_iload dX8_countOrders_47 rfl ?_
              refine A_ishr dX8_countOrders_49 ?_
              refine A_iconst (v := 1) dX8_countOrders_50 (by decide) ?_
              refine A_iand dX8_countOrders_51 ?_
              refine A_iconst (v := 1) dX8_countOrders_52 (by decide) ?_
              refine A_icmp_ne (tgt := 89) dX8_countOrders_53 rfl (fun h_4 => ?_) (fun h_4 => ?_)
              · skip
                refine A_iconst (v := 0) dX8_countOrders_89 (by decide) ?_
                exact tail 0 (b2i_0.mpr (zmy_1 h_4)).symm
              · skip
                refine A_aload_n dX8_countOrders_56 rfl rfl ?_
                refine B_getR (r := 84) dX8_countOrders_57 flX8_77 (hM 0 _ rfl) rfl ?_
                refine A_iload dX8_countOrders_60 rfl ?_
                refine B_ialdV (i := j) (B j) dX8_countOrders_62 (hM 24 _ rfl) (by decide) rfl (by omega) ((congrFun (mput_ne (by decide) (by decide)) _).trans ((congrFun (az_up_ne (by decide)) _).trans (hb j (by omega)))) ?_
                refine A_iload dX8_countOrders_63 rfl ?_
                refine A_iand dX8_countOrders_65 ?_
                refine A_if_ne (tgt := 89) dX8_countOrders_66 rfl (fun h_5 => ?_) (fun h_5 => ?_)
                · skip
                  refine A_iconst (v := 0) dX8_countOrders_89 (by decide) ?_
                  exact tail 0 (b2i_0.mpr (zmy_2 h_5)).symm
                · skip
                  refine A_iload dX8_countOrders_69 rfl ?_
                  refine A_iload_n dX8_countOrders_71 rfl rfl ?_
                  refine A_icmp_ne (tgt := 85) dX8_countOrders_72 rfl (fun h_6 => ?_) (fun h_6 => ?_)
                  · skip
                    refine A_iconst (v := 1) dX8_countOrders_85 (by decide) ?_
                    refine A_goto (tgt := 90) dX8_countOrders_86 rfl ?_
                    exact tail 1 (by rw [show (zmy B x y (k + 1) j) = true from zmy_t h_4 h_5 (fun z => h_6 z.1)]; rfl)
                  · skip
                    refine A_iload dX8_countOrders_75 rfl ?_
                    refine A_iload_n dX8_countOrders_77 rfl rfl ?_
                    refine A_ishr dX8_countOrders_78 ?_
                    refine A_iconst (v := 1) dX8_countOrders_79 (by decide) ?_
                    refine A_iand dX8_countOrders_80 ?_
                    refine A_iconst (v := 1) dX8_countOrders_81 (by decide) ?_
                    refine A_icmp_eq (tgt := 89) dX8_countOrders_82 rfl (fun h_7 => ?_) (fun h_7 => ?_)
                    · skip
                      refine A_iconst (v := 0) dX8_countOrders_89 (by decide) ?_
                      exact tail 0 (b2i_0.mpr (zmy_3 ⟨h_6, h_7⟩)).symm
                    · skip
                      refine A_iconst (v := 1) dX8_countOrders_85 (by decide) ?_
                      refine A_goto (tgt := 90) dX8_countOrders_86 rfl ?_
                      exact tail 1 (by rw [show (zmy B x y (k + 1) j) = true from zmy_t h_4 h_5 (fun z => h_7 z.2)]; rfl)
        exact inner (cN c) 0 (by omega)
  exact loop (2 ^ cN c - 1) 0 (by omega)
