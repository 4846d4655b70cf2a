theorem B_snd {l : Launch} {G : az_Gh} {M : az_Md} {d : Nat} {F : az_Fn} {bc bs pc : Nat} {lo : List (Option Value)} {st : List Value} {S : az_St} {v : Value} {x y : Int32} (h : x = y) (kk : AW l G M d F bc bs pc lo (v :: .int y :: st) S) : AW l G M d F bc bs pc lo (v :: .int x :: st) S := by subst h; exact kk
set_option maxHeartbeats 600000 in
set_option maxRecDepth 100000 in
theorem c_X6_endsSo (l : Launch) (G : az_Gh) (d : Nat) (sh : List az_Sh) (sg : Nat → Nat → Int32) (la : Nat → Nat → Int64) (o : Nat) (c : CT) (f0 : Nat → Int32) (hT0 : az_at sh o (lyT o)) (hO : cOk c) (haw : cAway c = -1) : FM l G (d + 2) mX6_endsSo [.ref o] (sh, (zput (va_up sg (o + 7) (zkc c f0)) (o + 1) c), la) (some (.int (b2i (zso c = true)))) (sh, (zput (va_up sg (o + 7) (zkc c f0)) (o + 1) c), la) := by
  refine az_fm knX6_endsSo (Nat.le_of_ble_eq_true rfl) rfl (fun Post hP => ?_)
  show AW l G mX6_endsSo (d + 2) (az_F G Post) 0 0 0 [some (.ref o), none, none] [] (sh, (zput (va_up sg (o + 7) (zkc c f0)) (o + 1) c), la)
  have hT := lyT_C hT0
  have h8 := hO.2
  refine A_iconst (v := (-1)) dX6_endsSo_0 (by decide) ?_
  refine A_istore_n (lo2 := [some (.ref o), some (.int (-1)), none]) dX6_endsSo_1 rfl (by decide) rfl ?_
  refine A_iconst (v := 0) dX6_endsSo_2 (by decide) ?_
  refine A_istore_n (lo2 := [some (.ref o), some (.int (-1)), some (.int 0)]) dX6_endsSo_3 rfl (by decide) rfl ?_
  have loop : ∀ (q_i9 i9 : Nat) (x1 : Int32), i9 + q_i9 = cN c → x1 = oI (zb c i9) → AW l G mX6_endsSo (d + 2) (az_F G Post) 0 0 4 [some (.ref o), some (.int x1), some (.int (nI i9))] [] (sh, (zput (va_up sg (o + 7) (zkc c f0)) (o + 1) c), la) := by
    intro q_i9
    induction q_i9 with
    | zero =>
      intro i9 x1 hi_i9  e_x1
      have hN_i9 : i9 = cN c := by omega
      subst hN_i9
      refine A_iload_n dX6_endsSo_4 rfl rfl ?_
      refine A_aload_n dX6_endsSo_5 rfl rfl ?_
      refine B_getR (r := (o + 1)) dX6_endsSo_6 flX6_12 (hT0 0 _ rfl) rfl ?_
      refine B_getV (nI (cN c)) dX6_endsSo_9 flX6_26 (hT0 1 _ rfl) rfl ((zr_5 _ _ _).trans hO.1) ?_
      refine A_icmp_ge (tgt := 43) dX6_endsSo_12 rfl (fun h_1 => ?_) (fun h_1 => ?_)
      · skip
        refine A_iload_n dX6_endsSo_43 rfl rfl ?_
        refine A_iconst (v := (-1)) dX6_endsSo_44 (by decide) ?_
        refine A_icmp_eq (tgt := 78) dX6_endsSo_45 rfl (fun h_2 => ?_) (fun h_2 => ?_)
        · skip
          refine A_iconst (v := 0) dX6_endsSo_78 (by decide) ?_
          refine A_zret dX6_endsSo_79 rfl (rfl) (az_pi hP ?_ (rfl))
          (exact b2i_f (fun q => by change zspO c (zb c (cN c)) = true at q; rw [(oI_n (q := zb c (cN c)) (fun k hk => by have := zb_lt c _ k hk; omega)).mp (by rw [← e_x1]; exact h_2)] at q; cases q))
        · skip
          obtain ⟨k9, hk9⟩ := oI_s (q := zb c (cN c)) (by rw [← e_x1]; exact h_2)
          have hlk := zb_lt c _ _ hk9
          rw [hk9] at e_x1
          change x1 = nI k9 at e_x1
          subst x1
          refine A_aload_n dX6_endsSo_48 rfl rfl ?_
          refine B_getR (r := (o + 7)) dX6_endsSo_49 flX6_18 (hT0 0 _ rfl) rfl ?_
          refine A_iload_n dX6_endsSo_52 rfl rfl ?_
          refine B_ialdV (i := k9) (zc c k9) dX6_endsSo_53 (hT0 7 _ rfl) (by decide) (rfl) (by omega) ((congrFun ((zput_ne (by omega)).trans az_up_self) _).trans (zkc_at (by omega))) ?_
          refine A_aload_n dX6_endsSo_54 rfl rfl ?_
          refine B_getR (r := (o + 1)) dX6_endsSo_55 flX6_12 (hT0 0 _ rfl) rfl ?_
          refine A_aload_n dX6_endsSo_58 rfl rfl ?_
          refine B_getR (r := (o + 1)) dX6_endsSo_59 flX6_12 (hT0 0 _ rfl) rfl ?_
          refine B_getR (r := (o + 4)) dX6_endsSo_62 flX6_52 (hT0 1 _ rfl) rfl ?_
          refine A_iload_n dX6_endsSo_65 rfl rfl ?_
          refine B_ialdV (i := k9) (cPr c k9) dX6_endsSo_66 (hT0 4 _ rfl) (by decide) (rfl) (by omega) (ze_3 _ _ _ _) ?_
          refine A_iload_n dX6_endsSo_67 rfl rfl ?_
          refine A_callV (n := 0) dX6_endsSo_68 kvX2_limitBy mlX6_55 rfl (az_rc_obj clX2 (hT0 1 _ rfl)) (z_X2_limitBy l G d sh (va_up sg (o + 7) (zkc c f0)) la (o + 1) c k9 (cPr c k9) hT hO (by omega)) (by omega) (Nat.le_refl _) (Nat.le_refl _) rfl (Nat.le_of_ble_eq_true rfl) (fun r S1 hp => ?_)
          obtain ⟨rfl, rfl⟩ := hp
          show AW l G mX6_endsSo (d + 2) (az_F G Post) 0 0 71 [some (.ref o), some (.int (nI k9)), some (.int (nI (cN c)))] [.int (zl c (cPr c k9) k9), .int (zc c k9)] (sh, (zput (va_up sg (o + 7) (zkc c f0)) (o + 1) c), la)
          refine A_icmp_le (tgt := 78) dX6_endsSo_71 rfl (fun h_3 => ?_) (fun h_3 => ?_)
          · skip
            refine A_iconst (v := 0) dX6_endsSo_78 (by decide) ?_
            refine A_zret dX6_endsSo_79 rfl (rfl) (az_pi hP ?_ (rfl))
            (exact b2i_f (fun q => by change zspO c (zb c (cN c)) = true at q; rw [hk9] at q; exact absurd (of_decide_eq_true q) (Int32.not_lt.mpr h_3)))
          · skip
            refine A_iconst (v := 1) dX6_endsSo_74 (by decide) ?_
            refine A_goto (tgt := 79) dX6_endsSo_75 rfl ?_
            refine A_zret dX6_endsSo_79 rfl (rfl) (az_pi hP ?_ (rfl))
            (exact b2i_t (by show zspO c (zb c (cN c)) = true; rw [hk9]; exact decide_eq_true (Int32.not_le.mp h_3)))
      · skip
        exact absurd (Int32.le_refl _) h_1
    | succ q_i9 ih =>
      intro i9 x1 hi_i9  e_x1
      refine A_iload_n dX6_endsSo_4 rfl rfl ?_
      refine A_aload_n dX6_endsSo_5 rfl rfl ?_
      refine B_getR (r := (o + 1)) dX6_endsSo_6 flX6_12 (hT0 0 _ rfl) rfl ?_
      refine B_getV (nI (cN c)) dX6_endsSo_9 flX6_26 (hT0 1 _ rfl) rfl ((zr_5 _ _ _).trans hO.1) ?_
      refine A_icmp_ge (tgt := 43) dX6_endsSo_12 rfl (fun h_4 => ?_) (fun h_4 => ?_)
      · skip
        exact absurd h_4 (nI_ge (by omega) (by omega))
      · skip
        refine A_iload_n dX6_endsSo_15 rfl rfl ?_
        refine A_iconst (v := (-1)) dX6_endsSo_16 (by decide) ?_
        refine A_icmp_eq (tgt := 35) dX6_endsSo_17 rfl (fun h_5 => ?_) (fun h_5 => ?_)
        · skip
          refine A_iload_n dX6_endsSo_35 rfl rfl ?_
          refine A_istore_n (lo2 := [some (.ref o), some (.int (nI i9)), some (.int (nI i9))]) dX6_endsSo_36 rfl (by decide) rfl ?_
          refine A_iinc (v := nI (i9 + 1)) (lo2 := [some (.ref o), some (.int (nI i9)), some (.int (nI (i9 + 1)))]) dX6_endsSo_37 rfl (nI_1 i9) (by decide) rfl ?_
          refine A_goto (tgt := 4) dX6_endsSo_40 rfl ?_
          refine ih (i9 + 1) _ (by omega) ?_
          · skip
            rw [(zb_f0 haw (by omega) ((oI_n (fun k hk => by have := zb_lt c _ k hk; omega)).mp (by rw [← e_x1]; exact h_5)))]; rfl
        · skip
          obtain ⟨k9, hk9⟩ := oI_s (q := zb c i9) (by rw [← e_x1]; exact h_5)
          have hlk := zb_lt c _ _ hk9
          rw [hk9] at e_x1
          change x1 = nI k9 at e_x1
          subst x1
          refine A_aload_n dX6_endsSo_20 rfl rfl ?_
          refine B_getR (r := (o + 7)) dX6_endsSo_21 flX6_18 (hT0 0 _ rfl) rfl ?_
          refine A_iload_n dX6_endsSo_24 rfl rfl ?_
          refine B_ialdV (i := i9) (zc c i9) dX6_endsSo_25 (hT0 7 _ rfl) (by decide) (rfl) (by omega) ((congrFun ((zput_ne (by omega)).trans az_up_self) _).trans (zkc_at (by omega))) ?_
          refine A_aload_n dX6_endsSo_26 rfl rfl ?_
          refine B_getR (r := (o + 7)) dX6_endsSo_27 flX6_18 (hT0 0 _ rfl) rfl ?_
          refine A_iload_n dX6_endsSo_30 rfl rfl ?_
          refine B_ialdV (i := k9) (zc c k9) dX6_endsSo_31 (hT0 7 _ rfl) (by decide) (rfl) (by omega) ((congrFun ((zput_ne (by omega)).trans az_up_self) _).trans (zkc_at (by omega))) ?_
          refine A_icmp_le (tgt := 37) dX6_endsSo_32 rfl (fun h_6 => ?_) (fun h_6 => ?_)
          · skip
            refine A_iinc (v := nI (i9 + 1)) (lo2 := [some (.ref o), some (.int (nI k9)), some (.int (nI (i9 + 1)))]) dX6_endsSo_37 rfl (nI_1 i9) (by decide) rfl ?_
            refine A_goto (tgt := 4) dX6_endsSo_40 rfl ?_
            refine ih (i9 + 1) _ (by omega) ?_
            · skip
              rw [(zb_f2 haw (by omega) hk9 (Int32.not_lt.mpr h_6))]; rfl
          · skip
            refine A_iload_n dX6_endsSo_35 rfl rfl ?_
            refine A_istore_n (lo2 := [some (.ref o), some (.int (nI i9)), some (.int (nI i9))]) dX6_endsSo_36 rfl (by decide) rfl ?_
            refine A_iinc (v := nI (i9 + 1)) (lo2 := [some (.ref o), some (.int (nI i9)), some (.int (nI (i9 + 1)))]) dX6_endsSo_37 rfl (nI_1 i9) (by decide) rfl ?_
            refine A_goto (tgt := 4) dX6_endsSo_40 rfl ?_
            refine ih (i9 + 1) _ (by omega) ?_
            · skip
              rw [(zb_f1 haw (by omega) hk9 (Int32.not_le.mp h_6))]; rfl
  exact loop (cN c) 0 _ (by omega) (rfl)
set_option maxHeartbeats 600000 in
set_option maxRecDepth 100000 in
theorem c_X6_comesSoBy (l : Launch) (G : az_Gh) (d : Nat) (sh : List az_Sh) (sg : Nat → Nat → Int32) (la : Nat → Nat → Int64) (o : Nat) (c : CT) (f0 : Nat → Int32) (n i : Nat) (x : Int32) (f : Bool) (hT0 : az_at sh o (lyT o)) (hO : cOk c) (haw : cAway c = -1) (hi : i < cN c) (IH : ∀ (e : CT) (f : Bool), cOk e → cAway e = -1 → FM l G (d + 3) mX6_comesSo [.ref o, .int (nI n), .int (b2i (f = true))] (sh, zput (va_up sg (o + 7) (zkc e f0)) (o + 1) e, la) (some (.int (b2i (zmk n e f = true)))) (sh, zput (va_up sg (o + 7) (zkc e f0)) (o + 1) e, la)) : FM l G (d + 4) mX6_comesSoBy [.ref o, .int (nI i), .int x, .int (nI (n + 1)), .int (b2i (f = true))] (sh, (zput (va_up sg (o + 7) (zkc c f0)) (o + 1) c), la) (some (.int (b2i (zmk n (zfe c i x) (!f) = true)))) (sh, (zput (va_up sg (o + 7) (zkc c f0)) (o + 1) c), la) := by
  refine az_fm knX6_comesSoBy (Nat.le_of_ble_eq_true rfl) rfl (fun Post hP => ?_)
  show AW l G mX6_comesSoBy (d + 4) (az_F G Post) 0 0 0 [some (.ref o), some (.int (nI i)), some (.int x), some (.int (nI (n + 1))), some (.int (b2i (f = true))), none, none, none] [] (sh, (zput (va_up sg (o + 7) (zkc c f0)) (o + 1) c), la)
  have hT := lyT_C hT0
  have h8 := hO.2
  refine A_aload_n dX6_comesSoBy_0 rfl rfl ?_
  refine B_getR (r := (o + 1)) dX6_comesSoBy_1 flX6_12 (hT0 0 _ rfl) rfl ?_
  refine B_getR (r := (o + 6)) dX6_comesSoBy_4 flX6_45 (hT0 1 _ rfl) rfl ?_
  refine A_iload_n dX6_comesSoBy_7 rfl rfl ?_
  refine B_ialdV (i := i) (cFe c i) dX6_comesSoBy_8 (hT0 6 _ rfl) (by decide) (rfl) (by omega) (ze_5 _ _ _ _) ?_
  refine A_istore (lo2 := [some (.ref o), some (.int (nI i)), some (.int x), some (.int (nI (n + 1))), some (.int (b2i (f = true))), some (.int (cFe c i)), none, none]) dX6_comesSoBy_9 (by decide) rfl ?_
  refine A_aload_n dX6_comesSoBy_11 rfl rfl ?_
  refine B_getR (r := (o + 7)) dX6_comesSoBy_12 flX6_18 (hT0 0 _ rfl) rfl ?_
  refine A_iload_n dX6_comesSoBy_15 rfl rfl ?_
  refine B_ialdV (i := i) (zc c i) dX6_comesSoBy_16 (hT0 7 _ rfl) (by decide) (rfl) (by omega) ((congrFun ((zput_ne (by omega)).trans az_up_self) _).trans (zkc_at (by omega))) ?_
  refine A_istore (lo2 := [some (.ref o), some (.int (nI i)), some (.int x), some (.int (nI (n + 1))), some (.int (b2i (f = true))), some (.int (cFe c i)), some (.int (zc c i)), none]) dX6_comesSoBy_17 (by decide) rfl ?_
  refine A_aload_n dX6_comesSoBy_19 rfl rfl ?_
  refine B_getR (r := (o + 1)) dX6_comesSoBy_20 flX6_12 (hT0 0 _ rfl) rfl ?_
  refine B_getR (r := (o + 6)) dX6_comesSoBy_23 flX6_45 (hT0 1 _ rfl) rfl ?_
  refine A_iload_n dX6_comesSoBy_26 rfl rfl ?_
  refine A_iload_n dX6_comesSoBy_27 rfl rfl ?_
  refine B_iast (i := i) dX6_comesSoBy_28 (hT0 6 _ rfl) (by decide) (rfl) (by omega) ?_
  refine B_sg (show _ = (zput (va_up sg (o + 7) (zkc c f0)) (o + 1) (sFe c (va_up (cFe c) i x))) from zx_5 _ _ _ _ _) ?_
  refine B_sg (show _ = (zput (va_up sg (o + 7) (zkc c f0)) (o + 1) (zfe c i x)) from rfl) ?_
  refine A_aload_n dX6_comesSoBy_29 rfl rfl ?_
  refine B_getR (r := (o + 7)) dX6_comesSoBy_30 flX6_18 (hT0 0 _ rfl) rfl ?_
  refine A_iload_n dX6_comesSoBy_33 rfl rfl ?_
  refine A_aload_n dX6_comesSoBy_34 rfl rfl ?_
  refine B_getR (r := (o + 1)) dX6_comesSoBy_35 flX6_12 (hT0 0 _ rfl) rfl ?_
  refine A_aload_n dX6_comesSoBy_38 rfl rfl ?_
  refine B_getR (r := (o + 1)) dX6_comesSoBy_39 flX6_12 (hT0 0 _ rfl) rfl ?_
  refine B_getR (r := (o + 2)) dX6_comesSoBy_42 flX6_30 (hT0 1 _ rfl) rfl ?_
  refine A_iload_n dX6_comesSoBy_45 rfl rfl ?_
  refine B_ialdV (i := i) (cKd (zfe c i x) i) dX6_comesSoBy_46 (hT0 2 _ rfl) (by decide) (rfl) (by omega) (ze_1 _ _ _ _) ?_
  refine A_iload_n dX6_comesSoBy_47 rfl rfl ?_
  refine A_callV (n := 0) dX6_comesSoBy_48 kvX2_coldAs mlX6_33 rfl (az_rc_obj clX2 (hT0 1 _ rfl)) (z_X2_coldAs l G (d + 2) sh (va_up sg (o + 7) (zkc c f0)) la (o + 1) (zfe c i x) i (cKd (zfe c i x) i) hT (show cOk (zfe c i x) from hO) (by show _ < cN c; omega)) (by omega) (Nat.le_refl _) (Nat.le_refl _) rfl (Nat.le_of_ble_eq_true rfl) (fun r S1 hp => ?_)
  obtain ⟨rfl, rfl⟩ := hp
  show AW l G mX6_comesSoBy (d + 4) (az_F G Post) 0 0 51 [some (.ref o), some (.int (nI i)), some (.int x), some (.int (nI (n + 1))), some (.int (b2i (f = true))), some (.int (cFe c i)), some (.int (zc c i)), none] [.int (zcT (cKd (zfe c i x) i) (zfe c i x) i), .int (nI i), .ref (o + 7)] (sh, (zput (va_up sg (o + 7) (zkc c f0)) (o + 1) (zfe c i x)), la)
  refine B_iast (i := i) dX6_comesSoBy_51 (hT0 7 _ rfl) (by decide) (rfl) (by omega) ?_
  refine B_sg (show _ = (zput (va_up sg (o + 7) (zkc (zfe c i x) f0)) (o + 1) (zfe c i x)) from (zw_out (by omega)).trans (congrArg (fun z => zput z (o + 1) (zfe c i x)) ((az_w_up _ _ _ _ _).trans (congrArg (va_up sg (o + 7)) (zkc_up (by omega)))))) ?_
  refine A_aload_n dX6_comesSoBy_52 rfl rfl ?_
  refine A_iload_n dX6_comesSoBy_53 rfl rfl ?_
  refine A_iconst (v := 1) dX6_comesSoBy_54 (by decide) ?_
  refine A_isub dX6_comesSoBy_55 ?_
  refine az_jn (P := fun z : Int32 => AW l G mX6_comesSoBy (d + 4) (az_F G Post) 0 0 66 [some (.ref o), some (.int (nI i)), some (.int x), some (.int (nI (n + 1))), some (.int (b2i (f = true))), some (.int (cFe c i)), some (.int (zc c i)), none] [.int z, .int (nI (n + 1) - 1), .ref o] (sh, (zput (va_up sg (o + 7) (zkc (zfe c i x) f0)) (o + 1) (zfe c i x)), la)) (if (b2i (f = true)) = 0 then 1 else 0) ?_ (fun hJ => ?_)
  · skip
    refine B_top (b2i_not f) ?_
    refine B_snd (nI_pred n) ?_
    refine A_callV (n := 0) dX6_comesSoBy_66 kvX6_comesSo mlX6_37 rfl (az_rc_obj clX6 (hT0 0 _ rfl)) (IH (zfe c i x) (!f) hO haw) (by omega) (Nat.le_refl _) (Nat.le_refl _) rfl (Nat.le_of_ble_eq_true rfl) (fun r S1 hp => ?_)
    obtain ⟨rfl, rfl⟩ := hp
    show AW l G mX6_comesSoBy (d + 4) (az_F G Post) 0 0 69 [some (.ref o), some (.int (nI i)), some (.int x), some (.int (nI (n + 1))), some (.int (b2i (f = true))), some (.int (cFe c i)), some (.int (zc c i)), none] [.int (b2i (zmk n (zfe c i x) (!f) = true))] (sh, (zput (va_up sg (o + 7) (zkc (zfe c i x) f0)) (o + 1) (zfe c i x)), la)
    refine A_istore (lo2 := [some (.ref o), some (.int (nI i)), some (.int x), some (.int (nI (n + 1))), some (.int (b2i (f = true))), some (.int (cFe c i)), some (.int (zc c i)), some (.int (b2i (zmk n (zfe c i x) (!f) = true)))]) dX6_comesSoBy_69 (by decide) rfl ?_
    refine A_aload_n dX6_comesSoBy_71 rfl rfl ?_
    refine B_getR (r := (o + 1)) dX6_comesSoBy_72 flX6_12 (hT0 0 _ rfl) rfl ?_
    refine B_getR (r := (o + 6)) dX6_comesSoBy_75 flX6_45 (hT0 1 _ rfl) rfl ?_
    refine A_iload_n dX6_comesSoBy_78 rfl rfl ?_
    refine A_iload dX6_comesSoBy_79 rfl ?_
    refine B_iast (i := i) dX6_comesSoBy_81 (hT0 6 _ rfl) (by decide) (rfl) (by omega) ?_
    refine B_sg (show _ = (zput (va_up sg (o + 7) (zkc (zfe c i x) f0)) (o + 1) (sFe (zfe c i x) (va_up (cFe (zfe c i x)) i (cFe c i)))) from zx_5 _ _ _ _ _) ?_
    refine B_sg (show _ = (zput (va_up sg (o + 7) (zkc (zfe c i x) f0)) (o + 1) c) from congrArg (fun z => zput (va_up sg (o + 7) (zkc (zfe c i x) f0)) (o + 1) z) (zfe_back c i x)) ?_
    refine A_aload_n dX6_comesSoBy_82 rfl rfl ?_
    refine B_getR (r := (o + 7)) dX6_comesSoBy_83 flX6_18 (hT0 0 _ rfl) rfl ?_
    refine A_iload_n dX6_comesSoBy_86 rfl rfl ?_
    refine A_iload dX6_comesSoBy_87 rfl ?_
    refine B_iast (i := i) dX6_comesSoBy_89 (hT0 7 _ rfl) (by decide) (rfl) (by omega) ?_
    refine B_sg (show _ = (zput (va_up sg (o + 7) (zkc c f0)) (o + 1) c) from (zw_out (by omega)).trans (congrArg (fun z => zput z (o + 1) c) ((az_w_up _ _ _ _ _).trans (congrArg (va_up sg (o + 7)) (zkc_back (by omega)))))) ?_
    refine A_iload dX6_comesSoBy_90 rfl ?_
    refine A_zret dX6_comesSoBy_92 rfl (narrow_b2i _) (az_pi hP ?_ (rfl))
    rfl
  · skip
    refine A_iload dX6_comesSoBy_56 rfl ?_
    refine A_if_ne (tgt := 65) dX6_comesSoBy_58 rfl (fun h_1 => ?_) (fun h_1 => ?_)
    · skip
      have h_1' := b2i_n.mp h_1
      refine A_iconst (v := 0) dX6_comesSoBy_65 (by decide) ?_
      rw [if_neg h_1] at hJ
      exact hJ
    · skip
      have h_1' := b2i_0.mp h_1
      refine A_iconst (v := 1) dX6_comesSoBy_61 (by decide) ?_
      refine A_goto (tgt := 66) dX6_comesSoBy_62 rfl ?_
      rw [if_pos h_1] at hJ
      exact hJ
set_option maxHeartbeats 600000 in
set_option maxRecDepth 100000 in
theorem c_X6_comesSo_0 (l : Launch) (G : az_Gh) (d : Nat) (sh : List az_Sh) (sg : Nat → Nat → Int32) (la : Nat → Nat → Int64) (o : Nat) (c : CT) (f0 : Nat → Int32) (f : Bool) (hT0 : az_at sh o (lyT o)) (hO : cOk c) (haw : cAway c = -1) : FM l G (d + 3) mX6_comesSo [.ref o, .int (nI 0), .int (b2i (f = true))] (sh, (zput (va_up sg (o + 7) (zkc c f0)) (o + 1) c), la) (some (.int (b2i (zmk 0 c f = true)))) (sh, (zput (va_up sg (o + 7) (zkc c f0)) (o + 1) c), la) := by
  refine az_fm knX6_comesSo (Nat.le_of_ble_eq_true rfl) rfl (fun Post hP => ?_)
  show AW l G mX6_comesSo (d + 3) (az_F G Post) 0 0 0 [some (.ref o), some (.int (nI 0)), some (.int (b2i (f = true))), none, none] [] (sh, (zput (va_up sg (o + 7) (zkc c f0)) (o + 1) c), la)
  have hT := lyT_C hT0
  have h8 := hO.2
  refine A_iload_n dX6_comesSo_0 rfl rfl ?_
  refine A_if_gt (tgt := 9) dX6_comesSo_1 rfl (fun h_1 => ?_) (fun h_1 => ?_)
  · skip
    exact absurd h_1 (by decide)
  · skip
    refine A_aload_n dX6_comesSo_4 rfl rfl ?_
    refine A_callV (n := 0) dX6_comesSo_5 kvX6_endsSo mlX6_41 rfl (az_rc_obj clX6 (hT0 0 _ rfl)) (c_X6_endsSo l G d sh sg la o c f0 hT0 hO haw) (by omega) (Nat.le_refl _) (Nat.le_refl _) rfl (Nat.le_of_ble_eq_true rfl) (fun r S1 hp => ?_)
    obtain ⟨rfl, rfl⟩ := hp
    show AW l G mX6_comesSo (d + 3) (az_F G Post) 0 0 8 [some (.ref o), some (.int (nI 0)), some (.int (b2i (f = true))), none, none] [.int (b2i (zso c = true))] (sh, (zput (va_up sg (o + 7) (zkc c f0)) (o + 1) c), la)
    refine A_zret dX6_comesSo_8 rfl (narrow_b2i _) (az_pi hP ?_ (rfl))
    rfl
set_option maxHeartbeats 600000 in
set_option maxRecDepth 100000 in
theorem c_X6_comesSo_s (l : Launch) (G : az_Gh) (d : Nat) (sh : List az_Sh) (sg : Nat → Nat → Int32) (la : Nat → Nat → Int64) (o : Nat) (c : CT) (f0 : Nat → Int32) (n : Nat) (f : Bool) (hT0 : az_at sh o (lyT o)) (hO : cOk c) (haw : cAway c = -1) (hn : n < 100) (IH : ∀ (e : CT) (f : Bool), cOk e → cAway e = -1 → FM l G (d + 3) mX6_comesSo [.ref o, .int (nI n), .int (b2i (f = true))] (sh, zput (va_up sg (o + 7) (zkc e f0)) (o + 1) e, la) (some (.int (b2i (zmk n e f = true)))) (sh, zput (va_up sg (o + 7) (zkc e f0)) (o + 1) e, la)) : FM l G (d + 5) mX6_comesSo [.ref o, .int (nI (n + 1)), .int (b2i (f = true))] (sh, (zput (va_up sg (o + 7) (zkc c f0)) (o + 1) c), la) (some (.int (b2i (zmk (n + 1) c f = true)))) (sh, (zput (va_up sg (o + 7) (zkc c f0)) (o + 1) c), la) := by
  refine az_fm knX6_comesSo (Nat.le_of_ble_eq_true rfl) rfl (fun Post hP => ?_)
  show AW l G mX6_comesSo (d + 5) (az_F G Post) 0 0 0 [some (.ref o), some (.int (nI (n + 1))), some (.int (b2i (f = true))), none, none] [] (sh, (zput (va_up sg (o + 7) (zkc c f0)) (o + 1) c), la)
  have hT := lyT_C hT0
  have h8 := hO.2
  refine A_iload_n dX6_comesSo_0 rfl rfl ?_
  refine A_if_gt (tgt := 9) dX6_comesSo_1 rfl (fun h_1 => ?_) (fun h_1 => ?_)
  · skip
    refine A_aload_n dX6_comesSo_9 rfl rfl ?_
    refine A_iload_n dX6_comesSo_10 rfl rfl ?_
    refine A_iconst (v := 1) dX6_comesSo_11 (by decide) ?_
    refine A_isub dX6_comesSo_12 ?_
    refine az_jn (P := fun z : Int32 => AW l G mX6_comesSo (d + 5) (az_F G Post) 0 0 22 [some (.ref o), some (.int (nI (n + 1))), some (.int (b2i (f = true))), none, none] [.int z, .int (nI (n + 1) - 1), .ref o] (sh, (zput (va_up sg (o + 7) (zkc c f0)) (o + 1) c), la)) (if (b2i (f = true)) = 0 then 1 else 0) ?_ (fun hJ => ?_)
    · skip
      refine B_top (b2i_not f) ?_
      refine B_snd (nI_pred n) ?_
      refine A_callV (n := 0) dX6_comesSo_22 kvX6_comesSo mlX6_37 rfl (az_rc_obj clX6 (hT0 0 _ rfl)) (IH c (!f) hO haw) (by omega) (Nat.le_refl _) (Nat.le_refl _) rfl (Nat.le_of_ble_eq_true rfl) (fun r S1 hp => ?_)
      obtain ⟨rfl, rfl⟩ := hp
      show AW l G mX6_comesSo (d + 5) (az_F G Post) 0 0 25 [some (.ref o), some (.int (nI (n + 1))), some (.int (b2i (f = true))), none, none] [.int (b2i (zmk n c (!f) = true))] (sh, (zput (va_up sg (o + 7) (zkc c f0)) (o + 1) c), la)
      refine A_iload_n dX6_comesSo_25 rfl rfl ?_
      refine A_icmp_ne (tgt := 31) dX6_comesSo_26 rfl (fun h_2 => ?_) (fun h_2 => ?_)
      · skip
        have hne : ¬ zmk n c (!f) = f := fun q => h_2 (b2i_eq.mpr q)
        refine A_iconst (v := 0) dX6_comesSo_31 (by decide) ?_
        refine A_istore_n (lo2 := [some (.ref o), some (.int (nI (n + 1))), some (.int (b2i (f = true))), some (.int 0), none]) dX6_comesSo_32 rfl (by decide) rfl ?_
        have loop : ∀ (q_i9 i9 : Nat), i9 + q_i9 = cN c → (∀ k, k < i9 → (zmP (fun e => zmk n e (!f)) c f) k = false) → AW l G mX6_comesSo (d + 5) (az_F G Post) 0 0 33 [some (.ref o), some (.int (nI (n + 1))), some (.int (b2i (f = true))), some (.int (nI i9)), none] [] (sh, (zput (va_up sg (o + 7) (zkc c f0)) (o + 1) c), la) := by
          intro q_i9
          induction q_i9 with
          | zero =>
            intro i9  hi_i9 hno 
            have hN_i9 : i9 = cN c := by omega
            subst hN_i9
            refine A_iload_n dX6_comesSo_33 rfl rfl ?_
            refine A_aload_n dX6_comesSo_34 rfl rfl ?_
            refine B_getR (r := (o + 1)) dX6_comesSo_35 flX6_12 (hT0 0 _ rfl) rfl ?_
            refine B_getV (nI (cN c)) dX6_comesSo_38 flX6_26 (hT0 1 _ rfl) rfl ((zr_5 _ _ _).trans hO.1) ?_
            refine A_icmp_ge (tgt := 107) dX6_comesSo_41 rfl (fun h_3 => ?_) (fun h_3 => ?_)
            · skip
              refine az_jn (P := fun z : Int32 => AW l G mX6_comesSo (d + 5) (az_F G Post) 0 0 116 [some (.ref o), some (.int (nI (n + 1))), some (.int (b2i (f = true))), some (.int (nI (cN c))), none] [.int z] (sh, (zput (va_up sg (o + 7) (zkc c f0)) (o + 1) c), la)) (if (b2i (f = true)) = 0 then 1 else 0) ?_ (fun hJ => ?_)
              · skip
                refine B_top (b2i_not f) ?_
                refine A_zret dX6_comesSo_116 rfl (narrow_b2i _) (az_pi hP ?_ (rfl))
                (exact congrArg (fun z : Bool => b2i (z = true)) (zmk_c hne hno).symm)
              · skip
                refine A_iload_n dX6_comesSo_107 rfl rfl ?_
                refine A_if_ne (tgt := 115) dX6_comesSo_108 rfl (fun h_4 => ?_) (fun h_4 => ?_)
                · skip
                  have h_4' := b2i_n.mp h_4
                  refine A_iconst (v := 0) dX6_comesSo_115 (by decide) ?_
                  rw [if_neg h_4] at hJ
                  exact hJ
                · skip
                  have h_4' := b2i_0.mp h_4
                  refine A_iconst (v := 1) dX6_comesSo_111 (by decide) ?_
                  refine A_goto (tgt := 116) dX6_comesSo_112 rfl ?_
                  rw [if_pos h_4] at hJ
                  exact hJ
            · skip
              exact absurd (Int32.le_refl _) h_3
          | succ q_i9 ih =>
            intro i9  hi_i9 hno 
            refine A_iload_n dX6_comesSo_33 rfl rfl ?_
            refine A_aload_n dX6_comesSo_34 rfl rfl ?_
            refine B_getR (r := (o + 1)) dX6_comesSo_35 flX6_12 (hT0 0 _ rfl) rfl ?_
            refine B_getV (nI (cN c)) dX6_comesSo_38 flX6_26 (hT0 1 _ rfl) rfl ((zr_5 _ _ _).trans hO.1) ?_
            refine A_icmp_ge (tgt := 107) dX6_comesSo_41 rfl (fun h_5 => ?_) (fun h_5 => ?_)
            · skip
              exact absurd h_5 (nI_ge (by omega) (by omega))
            · skip
              refine A_aload_n dX6_comesSo_44 rfl rfl ?_
              refine B_getR (r := (o + 1)) dX6_comesSo_45 flX6_12 (hT0 0 _ rfl) rfl ?_
              refine B_getR (r := (o + 6)) dX6_comesSo_48 flX6_45 (hT0 1 _ rfl) rfl ?_
              refine A_iload_n dX6_comesSo_51 rfl rfl ?_
              refine B_ialdV (i := i9) (cFe c i9) dX6_comesSo_52 (hT0 6 _ rfl) (by decide) (rfl) (by omega) (ze_5 _ _ _ _) ?_
              refine A_istore (lo2 := [some (.ref o), some (.int (nI (n + 1))), some (.int (b2i (f = true))), some (.int (nI i9)), some (.int (cFe c i9))]) dX6_comesSo_53 (by decide) rfl ?_
              refine A_iload dX6_comesSo_55 rfl ?_
              refine A_bipush (v := 40) dX6_comesSo_57 (by decide) ?_
              refine A_icmp_ge (tgt := 79) dX6_comesSo_59 rfl (fun h_6 => ?_) (fun h_6 => ?_)
              · skip
                refine A_iload dX6_comesSo_79 rfl ?_
                refine A_if_le (tgt := 101) dX6_comesSo_81 rfl (fun h_7 => ?_) (fun h_7 => ?_)
                · skip
                  refine A_iinc (v := nI (i9 + 1)) (lo2 := [some (.ref o), some (.int (nI (n + 1))), some (.int (b2i (f = true))), some (.int (nI (i9 + 1))), some (.int (cFe c i9))]) dX6_comesSo_101 rfl (nI_1 i9) (by decide) rfl ?_
                  refine A_goto (tgt := 33) dX6_comesSo_104 rfl ?_
                  refine A_forget (lo2 := [some (.ref o), some (.int (nI (n + 1))), some (.int (b2i (f = true))), some (.int (nI (i9 + 1))), none]) ⟨rfl, rfl, rfl, rfl, trivial⟩ ?_
                  refine ih (i9 + 1) (by omega) (lt_s hno (zmP_n (Or.inl (Int32.not_lt.mpr h_6)) (Or.inl (Int32.not_lt.mpr h_7))))
                · skip
                  refine A_aload_n dX6_comesSo_84 rfl rfl ?_
                  refine A_iload_n dX6_comesSo_85 rfl rfl ?_
                  refine A_iload dX6_comesSo_86 rfl ?_
                  refine A_iconst (v := 1) dX6_comesSo_88 (by decide) ?_
                  refine A_isub dX6_comesSo_89 ?_
                  refine A_iload_n dX6_comesSo_90 rfl rfl ?_
                  refine A_iload_n dX6_comesSo_91 rfl rfl ?_
                  refine A_callV (n := 0) dX6_comesSo_92 kvX6_comesSoBy mlX6_48 rfl (az_rc_obj clX6 (hT0 0 _ rfl)) (c_X6_comesSoBy l G d sh sg la o c f0 n i9 (cFe c i9 - 1) f hT0 hO haw (by omega) IH) (by omega) (Nat.le_refl _) (Nat.le_refl _) rfl (Nat.le_of_ble_eq_true rfl) (fun r S1 hp => ?_)
                  obtain ⟨rfl, rfl⟩ := hp
                  show AW l G mX6_comesSo (d + 5) (az_F G Post) 0 0 95 [some (.ref o), some (.int (nI (n + 1))), some (.int (b2i (f = true))), some (.int (nI i9)), some (.int (cFe c i9))] [.int (b2i (zmk n (zfe c i9 (cFe c i9 - 1)) (!f) = true))] (sh, (zput (va_up sg (o + 7) (zkc c f0)) (o + 1) c), la)
                  refine A_iload_n dX6_comesSo_95 rfl rfl ?_
                  refine A_icmp_ne (tgt := 101) dX6_comesSo_96 rfl (fun h_8 => ?_) (fun h_8 => ?_)
                  · skip
                    refine A_iinc (v := nI (i9 + 1)) (lo2 := [some (.ref o), some (.int (nI (n + 1))), some (.int (b2i (f = true))), some (.int (nI (i9 + 1))), some (.int (cFe c i9))]) dX6_comesSo_101 rfl (nI_1 i9) (by decide) rfl ?_
                    refine A_goto (tgt := 33) dX6_comesSo_104 rfl ?_
                    refine A_forget (lo2 := [some (.ref o), some (.int (nI (n + 1))), some (.int (b2i (f = true))), some (.int (nI (i9 + 1))), none]) ⟨rfl, rfl, rfl, rfl, trivial⟩ ?_
                    refine ih (i9 + 1) (by omega) (lt_s hno (zmP_n (Or.inl (Int32.not_lt.mpr h_6)) (Or.inr (fun q => h_8 (b2i_eq.mpr q)))))
                  · skip
                    refine A_iload_n dX6_comesSo_99 rfl rfl ?_
                    refine A_zret dX6_comesSo_100 rfl (narrow_b2i _) (az_pi hP ?_ (rfl))
                    (exact congrArg (fun z : Bool => b2i (z = true)) (zmk_b hne (i := i9) (by omega) (zmP_d (Int32.not_le.mp h_7) (b2i_eq.mp h_8)) hno).symm)
              · skip
                refine A_aload_n dX6_comesSo_62 rfl rfl ?_
                refine A_iload_n dX6_comesSo_63 rfl rfl ?_
                refine A_iload dX6_comesSo_64 rfl ?_
                refine A_iconst (v := 1) dX6_comesSo_66 (by decide) ?_
                refine A_iadd dX6_comesSo_67 ?_
                refine A_iload_n dX6_comesSo_68 rfl rfl ?_
                refine A_iload_n dX6_comesSo_69 rfl rfl ?_
                refine A_callV (n := 0) dX6_comesSo_70 kvX6_comesSoBy mlX6_48 rfl (az_rc_obj clX6 (hT0 0 _ rfl)) (c_X6_comesSoBy l G d sh sg la o c f0 n i9 (cFe c i9 + 1) f hT0 hO haw (by omega) IH) (by omega) (Nat.le_refl _) (Nat.le_refl _) rfl (Nat.le_of_ble_eq_true rfl) (fun r S1 hp => ?_)
                obtain ⟨rfl, rfl⟩ := hp
                show AW l G mX6_comesSo (d + 5) (az_F G Post) 0 0 73 [some (.ref o), some (.int (nI (n + 1))), some (.int (b2i (f = true))), some (.int (nI i9)), some (.int (cFe c i9))] [.int (b2i (zmk n (zfe c i9 (cFe c i9 + 1)) (!f) = true))] (sh, (zput (va_up sg (o + 7) (zkc c f0)) (o + 1) c), la)
                refine A_iload_n dX6_comesSo_73 rfl rfl ?_
                refine A_icmp_ne (tgt := 79) dX6_comesSo_74 rfl (fun h_9 => ?_) (fun h_9 => ?_)
                · skip
                  refine A_iload dX6_comesSo_79 rfl ?_
                  refine A_if_le (tgt := 101) dX6_comesSo_81 rfl (fun h_10 => ?_) (fun h_10 => ?_)
                  · skip
                    refine A_iinc (v := nI (i9 + 1)) (lo2 := [some (.ref o), some (.int (nI (n + 1))), some (.int (b2i (f = true))), some (.int (nI (i9 + 1))), some (.int (cFe c i9))]) dX6_comesSo_101 rfl (nI_1 i9) (by decide) rfl ?_
                    refine A_goto (tgt := 33) dX6_comesSo_104 rfl ?_
                    refine A_forget (lo2 := [some (.ref o), some (.int (nI (n + 1))), some (.int (b2i (f = true))), some (.int (nI (i9 + 1))), none]) ⟨rfl, rfl, rfl, rfl, trivial⟩ ?_
                    refine ih (i9 + 1) (by omega) (lt_s hno (zmP_n (Or.inr (fun q => h_9 (b2i_eq.mpr q))) (Or.inl (Int32.not_lt.mpr h_10))))
                  · skip
                    refine A_aload_n dX6_comesSo_84 rfl rfl ?_
                    refine A_iload_n dX6_comesSo_85 rfl rfl ?_
                    refine A_iload dX6_comesSo_86 rfl ?_
                    refine A_iconst (v := 1) dX6_comesSo_88 (by decide) ?_
                    refine A_isub dX6_comesSo_89 ?_
                    refine A_iload_n dX6_comesSo_90 rfl rfl ?_
                    refine A_iload_n dX6_comesSo_91 rfl rfl ?_
                    refine A_callV (n := 0) dX6_comesSo_92 kvX6_comesSoBy mlX6_48 rfl (az_rc_obj clX6 (hT0 0 _ rfl)) (c_X6_comesSoBy l G d sh sg la o c f0 n i9 (cFe c i9 - 1) f hT0 hO haw (by omega) IH) (by omega) (Nat.le_refl _) (Nat.le_refl _) rfl (Nat.le_of_ble_eq_true rfl) (fun r S1 hp => ?_)
                    obtain ⟨rfl, rfl⟩ := hp
                    show AW l G mX6_comesSo (d + 5) (az_F G Post) 0 0 95 [some (.ref o), some (.int (nI (n + 1))), some (.int (b2i (f = true))), some (.int (nI i9)), some (.int (cFe c i9))] [.int (b2i (zmk n (zfe c i9 (cFe c i9 - 1)) (!f) = true))] (sh, (zput (va_up sg (o + 7) (zkc c f0)) (o + 1) c), la)
                    refine A_iload_n dX6_comesSo_95 rfl rfl ?_
                    refine A_icmp_ne (tgt := 101) dX6_comesSo_96 rfl (fun h_11 => ?_) (fun h_11 => ?_)
                    · skip
                      refine A_iinc (v := nI (i9 + 1)) (lo2 := [some (.ref o), some (.int (nI (n + 1))), some (.int (b2i (f = true))), some (.int (nI (i9 + 1))), some (.int (cFe c i9))]) dX6_comesSo_101 rfl (nI_1 i9) (by decide) rfl ?_
                      refine A_goto (tgt := 33) dX6_comesSo_104 rfl ?_
                      refine A_forget (lo2 := [some (.ref o), some (.int (nI (n + 1))), some (.int (b2i (f = true))), some (.int (nI (i9 + 1))), none]) ⟨rfl, rfl, rfl, rfl, trivial⟩ ?_
                      refine ih (i9 + 1) (by omega) (lt_s hno (zmP_n (Or.inr (fun q => h_9 (b2i_eq.mpr q))) (Or.inr (fun q => h_11 (b2i_eq.mpr q)))))
                    · skip
                      refine A_iload_n dX6_comesSo_99 rfl rfl ?_
                      refine A_zret dX6_comesSo_100 rfl (narrow_b2i _) (az_pi hP ?_ (rfl))
                      (exact congrArg (fun z : Bool => b2i (z = true)) (zmk_b hne (i := i9) (by omega) (zmP_d (Int32.not_le.mp h_10) (b2i_eq.mp h_11)) hno).symm)
                · skip
                  refine A_iload_n dX6_comesSo_77 rfl rfl ?_
                  refine A_zret dX6_comesSo_78 rfl (narrow_b2i _) (az_pi hP ?_ (rfl))
                  (exact congrArg (fun z : Bool => b2i (z = true)) (zmk_b hne (i := i9) (by omega) (zmP_u (Int32.not_le.mp h_6) (b2i_eq.mp h_9)) hno).symm)
        exact loop (cN c) 0 (by omega) lt_0
      · skip
        refine A_iload_n dX6_comesSo_29 rfl rfl ?_
        refine A_zret dX6_comesSo_30 rfl (narrow_b2i _) (az_pi hP ?_ (rfl))
        (exact congrArg (fun z : Bool => b2i (z = true)) (zmk_a (b2i_eq.mp h_2)).symm)
    · skip
      refine A_iload_n dX6_comesSo_13 rfl rfl ?_
      refine A_if_ne (tgt := 21) dX6_comesSo_14 rfl (fun h_12 => ?_) (fun h_12 => ?_)
      · skip
        have h_12' := b2i_n.mp h_12
        refine A_iconst (v := 0) dX6_comesSo_21 (by decide) ?_
        rw [if_neg h_12] at hJ
        exact hJ
      · skip
        have h_12' := b2i_0.mp h_12
        refine A_iconst (v := 1) dX6_comesSo_17 (by decide) ?_
        refine A_goto (tgt := 22) dX6_comesSo_18 rfl ?_
        rw [if_pos h_12] at hJ
        exact hJ
  · skip
    exact absurd (nI_lt (a := 0) (b := n + 1) (by omega) (by omega)) h_1
theorem c_X6_comesSo (l : Launch) (G : az_Gh) (sh : List az_Sh) (sg : Nat → Nat → Int32) (la : Nat → Nat → Int64) (o : Nat) (f0 : Nat → Int32) (hT0 : az_at sh o (lyT o)) : ∀ (n d : Nat) (c : CT) (f : Bool), n < 100 → cOk c → cAway c = -1 → FM l G (d + (2 * n + 3)) mX6_comesSo [.ref o, .int (nI n), .int (b2i (f = true))] (sh, zput (va_up sg (o + 7) (zkc c f0)) (o + 1) c, la) (some (.int (b2i (zmk n c f = true)))) (sh, zput (va_up sg (o + 7) (zkc c f0)) (o + 1) c, la)
  | 0, d, c, f, _, hO, haw => c_X6_comesSo_0 l G d sh sg la o c f0 f hT0 hO haw
  | n + 1, d, c, f, hn, hO, haw => by
    rw [show d + (2 * (n + 1) + 3) = d + 2 * n + 5 by omega]
    refine c_X6_comesSo_s l G (d + 2 * n) sh sg la o c f0 n f hT0 hO haw (by omega) (fun e f9 h1 h2 => ?_)
    rw [show d + 2 * n + 3 = d + (2 * n + 3) by omega]
    exact c_X6_comesSo l G sh sg la o f0 hT0 n d e f9 (by omega) h1 h2
set_option maxHeartbeats 600000 in
set_option maxRecDepth 100000 in
theorem c_X6_canMakeSo (l : Launch) (G : az_Gh) (d : Nat) (sh : List az_Sh) (sg : Nat → Nat → Int32) (la : Nat → Nat → Int64) (o n0 : Nat) (c cn : CT) (n : Nat) (hT0 : az_at sh o (lyT o)) (hC2 : az_at sh n0 (lyC n0)) (hd : n0 + 5 < o ∨ o + 8 ≤ n0) (hcn : ct sg n0 = cn) (ht : cTl c) (ht2 : cTl cn) (hRn : cRng cn) (haw : cAway cn = -1) (hn : n < 10) : FM l G (d + 30) mX6_canMakeSo [.ref o, .ref n0, .int (nI n)] (sh, (zput sg (o + 1) c), la) (some (.int (b2i (zmk n cn true = true)))) (sh, zput (va_up sg (o + 7) (zkc cn (sg (o + 7)))) (o + 1) cn, la) := by
  refine az_fm knX6_canMakeSo (Nat.le_of_ble_eq_true rfl) rfl (fun Post hP => ?_)
  show AW l G mX6_canMakeSo (d + 30) (az_F G Post) 0 0 0 [some (.ref o), some (.ref n0), some (.int (nI n)), none] [] (sh, (zput sg (o + 1) c), la)
  have hT := lyT_C hT0
  have h8 := hRn.1.2
  refine A_aload_n dX6_canMakeSo_0 rfl rfl ?_
  refine B_getR (r := (o + 1)) dX6_canMakeSo_1 flX6_12 (hT0 0 _ rfl) rfl ?_
  refine A_aload_n dX6_canMakeSo_4 rfl rfl ?_
  refine A_callV (n := 0) dX6_canMakeSo_5 kvX2_load mlX6_22 rfl (az_rc_obj clX2 (hT0 1 _ rfl)) (z_X2_load l G (d + 27) sh sg la (o + 1) c n0 hT hC2 (by omega) ht (by rw [hcn]; exact ht2)) (by omega) (Nat.le_refl _) (Nat.le_refl _) rfl (Nat.le_of_ble_eq_true rfl) (fun r S1 hp => ?_)
  obtain ⟨rfl, rfl⟩ := hp
  show AW l G mX6_canMakeSo (d + 30) (az_F G Post) 0 0 8 [some (.ref o), some (.ref n0), some (.int (nI n)), none] [] (sh, (zput sg (o + 1) (ct sg n0)), la)
  refine B_sg (show _ = (zput (va_up sg (o + 7) (zkp cn 0 (sg (o + 7)))) (o + 1) cn) from by rw [hcn, zkp_0, az_up_id]) ?_
  refine A_iconst (v := 0) dX6_canMakeSo_8 (by decide) ?_
  refine A_istore_n (lo2 := [some (.ref o), some (.ref n0), some (.int (nI n)), some (.int 0)]) dX6_canMakeSo_9 rfl (by decide) rfl ?_
  have loop : ∀ (q_i9 i9 : Nat), i9 + q_i9 = cN cn → AW l G mX6_canMakeSo (d + 30) (az_F G Post) 0 0 10 [some (.ref o), some (.ref n0), some (.int (nI n)), some (.int (nI i9))] [] (sh, (zput (va_up sg (o + 7) (zkp cn i9 (sg (o + 7)))) (o + 1) cn), la) := by
    intro q_i9
    induction q_i9 with
    | zero =>
      intro i9  hi_i9  
      have hN_i9 : i9 = cN cn := by omega
      subst hN_i9
      refine A_iload_n dX6_canMakeSo_10 rfl rfl ?_
      refine A_aload_n dX6_canMakeSo_11 rfl rfl ?_
      refine B_getR (r := (o + 1)) dX6_canMakeSo_12 flX6_12 (hT0 0 _ rfl) rfl ?_
      refine B_getV (nI (cN cn)) dX6_canMakeSo_15 flX6_26 (hT0 1 _ rfl) rfl ((zr_5 _ _ _).trans hRn.1.1) ?_
      refine A_icmp_ge (tgt := 50) dX6_canMakeSo_18 rfl (fun h_1 => ?_) (fun h_1 => ?_)
      · skip
        refine A_aload_n dX6_canMakeSo_50 rfl rfl ?_
        refine A_iload_n dX6_canMakeSo_51 rfl rfl ?_
        refine A_iconst (v := 1) dX6_canMakeSo_52 (by decide) ?_
        refine B_top (show (1 : Int32) = b2i (true = true) from (b2i_t rfl)) ?_
        refine A_callV (n := 0) dX6_canMakeSo_53 kvX6_comesSo mlX6_37 rfl (az_rc_obj clX6 (hT0 0 _ rfl)) (c_X6_comesSo l G sh sg la o (sg (o + 7)) hT0 n d cn true (by omega) hRn.1 haw) (by omega) (Nat.le_refl _) (Nat.le_refl _) rfl (Nat.le_of_ble_eq_true rfl) (fun r S1 hp => ?_)
        obtain ⟨rfl, rfl⟩ := hp
        show AW l G mX6_canMakeSo (d + 30) (az_F G Post) 0 0 56 [some (.ref o), some (.ref n0), some (.int (nI n)), some (.int (nI (cN cn)))] [.int (b2i (zmk n cn true = true))] (sh, (zput (va_up sg (o + 7) (zkc cn (sg (o + 7)))) (o + 1) cn), la)
        refine A_zret dX6_canMakeSo_56 rfl (narrow_b2i _) (az_pi hP ?_ (rfl))
        rfl
      · skip
        exact absurd (Int32.le_refl _) h_1
    | succ q_i9 ih =>
      intro i9  hi_i9  
      refine A_iload_n dX6_canMakeSo_10 rfl rfl ?_
      refine A_aload_n dX6_canMakeSo_11 rfl rfl ?_
      refine B_getR (r := (o + 1)) dX6_canMakeSo_12 flX6_12 (hT0 0 _ rfl) rfl ?_
      refine B_getV (nI (cN cn)) dX6_canMakeSo_15 flX6_26 (hT0 1 _ rfl) rfl ((zr_5 _ _ _).trans hRn.1.1) ?_
      refine A_icmp_ge (tgt := 50) dX6_canMakeSo_18 rfl (fun h_2 => ?_) (fun h_2 => ?_)
      · skip
        exact absurd h_2 (nI_ge (by omega) (by omega))
      · skip
        refine A_aload_n dX6_canMakeSo_21 rfl rfl ?_
        refine B_getR (r := (o + 7)) dX6_canMakeSo_22 flX6_18 (hT0 0 _ rfl) rfl ?_
        refine A_iload_n dX6_canMakeSo_25 rfl rfl ?_
        refine A_aload_n dX6_canMakeSo_26 rfl rfl ?_
        refine B_getR (r := (o + 1)) dX6_canMakeSo_27 flX6_12 (hT0 0 _ rfl) rfl ?_
        refine A_aload_n dX6_canMakeSo_30 rfl rfl ?_
        refine B_getR (r := (o + 1)) dX6_canMakeSo_31 flX6_12 (hT0 0 _ rfl) rfl ?_
        refine B_getR (r := (o + 2)) dX6_canMakeSo_34 flX6_30 (hT0 1 _ rfl) rfl ?_
        refine A_iload_n dX6_canMakeSo_37 rfl rfl ?_
        refine B_ialdV (i := i9) (cKd cn i9) dX6_canMakeSo_38 (hT0 2 _ rfl) (by decide) (rfl) (by omega) (ze_1 _ _ _ _) ?_
        refine A_iload_n dX6_canMakeSo_39 rfl rfl ?_
        refine A_callV (n := 0) dX6_canMakeSo_40 kvX2_coldAs mlX6_33 rfl (az_rc_obj clX2 (hT0 1 _ rfl)) (z_X2_coldAs l G (d + 28) sh (va_up sg (o + 7) (zkp cn i9 (sg (o + 7)))) la (o + 1) cn i9 (cKd cn i9) hT hRn.1 (by omega)) (by omega) (Nat.le_refl _) (Nat.le_refl _) rfl (Nat.le_of_ble_eq_true rfl) (fun r S1 hp => ?_)
        obtain ⟨rfl, rfl⟩ := hp
        show AW l G mX6_canMakeSo (d + 30) (az_F G Post) 0 0 43 [some (.ref o), some (.ref n0), some (.int (nI n)), some (.int (nI i9))] [.int (zcT (cKd cn i9) cn i9), .int (nI i9), .ref (o + 7)] (sh, (zput (va_up sg (o + 7) (zkp cn i9 (sg (o + 7)))) (o + 1) cn), la)
        refine B_iast (i := i9) dX6_canMakeSo_43 (hT0 7 _ rfl) (by decide) (rfl) (by omega) ?_
        refine B_sg (show _ = (zput (va_up sg (o + 7) (zkp cn (i9 + 1) (sg (o + 7)))) (o + 1) cn) from (zw_out (by omega)).trans (congrArg (fun z => zput z (o + 1) cn) ((az_w_up _ _ _ _ _).trans (congrArg (va_up sg (o + 7)) (zkp_s cn i9 _))))) ?_
        refine A_iinc (v := nI (i9 + 1)) (lo2 := [some (.ref o), some (.ref n0), some (.int (nI n)), some (.int (nI (i9 + 1)))]) dX6_canMakeSo_44 rfl (nI_1 i9) (by decide) rfl ?_
        refine A_goto (tgt := 10) dX6_canMakeSo_47 rfl ?_
        refine ih (i9 + 1) (by omega)
  exact loop (cN cn) 0 (by omega)
