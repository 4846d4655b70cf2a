theorem r_makes (l : Launch) (G : az_Gh) (sh : List az_Sh) (u : Nat → Nat → Int32) (la : Nat → Nat → Int64) (kp tr : Option Nat) (hM : az_at sh 60 (lyM 60 kp tr)) : ∀ (n d : Nat) (c : CT) (f : Bool), n < 100 → cOk c → cLv c → (∀ p, p < cN c → iR (cFe c p) 40) → FM l G (d + (n + 4)) mX8_makes [.ref 60, .int (nI n), .int (b2i (f = true))] (sh, mput u 60 c, la) (some (.int (b2i (zmk n c f = true)))) (sh, mput u 60 c, la)
  | 0, d, c, f, _, hO, hL, _ => r_makes_0 l G d sh u la kp tr c f hM hO hL
  | n + 1, d, c, f, hn, hO, hL, hr => by
    have q := r_makes_s l G (d + n) sh u la kp tr c n f hM hO hL hr (by omega) (fun e g h1 h2 h3 => by
      have z := r_makes l G sh u la kp tr hM n d e g (by omega) h1 h2 h3
      rw [show d + (n + 4) = d + n + 4 by omega] at z
      exact z)
    rw [show d + n + 5 = d + (n + 1 + 4) by omega] at q
    exact q
theorem r_makes4 (l : Launch) (G : az_Gh) (d : Nat) (sh : List az_Sh) (u : Nat → Nat → Int32) (la : Nat → Nat → Int64) (kp tr : Option Nat) (c : CT) (n : Nat) (hM : az_at sh 60 (lyM 60 kp tr)) (hn : n ≤ 4) (hO : cOk c) (hL : cLv c) (hr : ∀ p, p < cN c → iR (cFe c p) 40) : FM l G (d + 8) mX8_makes [.ref 60, .int (nI n), .int 1] (sh, mput u 60 c, la) (some (.int (b2i (zmk n c true = true)))) (sh, mput u 60 c, la) := by
  have q := r_makes l G sh u la kp tr hM n (d + (4 - n)) c true (by omega) hO hL hr
  rw [show d + (4 - n) + (n + 4) = d + 8 by omega] at q
  exact q
set_option maxHeartbeats 1000000 in
set_option maxRecDepth 100000 in
theorem y_byTurns (l : Launch) (G : az_Gh) (d : Nat) (sh : List az_Sh) (sg : Nat → Nat → Int32) (la : Nat → Nat → Int64) (g : GGM) (σ : SGM) (kp tr : Option Nat) (n : Int32) (hM : az_at sh 60 (lyM 60 kp tr)) (hR : RX g sg la σ kp tr) (hW : WF σ)  : AM l G (d + 32) mX8_byTurns [.ref 60, .int n] (sh, sg, la) 0 0 (RQ sh g kp tr (.int (q_byTurns σ n).1) (q_byTurns σ n).2) := by
  refine az_am knX8_byTurns (Nat.le_of_ble_eq_true rfl) rfl (fun Post hP => ?_)
  show AW l G mX8_byTurns (d + 32) (az_F G Post) 0 0 0 [some (.ref 60), some (.int n)] [] (sh, sg, la)
  have hO := hW.1.1.1
  have hL := cW_lv hW.1
  have haw := hW.1.2.2.1
  have h8 := hO.2
  refine B_sg hR.z.symm ?_
  refine A_iload_n dX8_byTurns_0 rfl rfl ?_
  refine A_i2l dX8_byTurns_1 ?_
  refine A_lconst (v := 0) dX8_byTurns_2 (by decide) ?_
  refine A_ldc2 (v := 4) dX8_byTurns_3 lcX8_97 ?_
  refine A_callS (n := 0) dX8_byTurns_6 ksX8_in mlX8_91 rfl (c_X8_inI l G (d + 31) sh (mput sg 60 (xN σ)) la n 4 4 (by decide)) (by omega) (Nat.le_refl _) (Nat.le_refl _) rfl (Nat.le_of_ble_eq_true rfl) (fun r S1 hp => ?_)
  obtain ⟨rfl, rfl⟩ := hp
  show AW l G mX8_byTurns (d + 32) (az_F G Post) 0 0 9 [some (.ref 60), some (.int n)] [.int (b2i (0 ≤ n ∧ n ≤ 4))] (sh, (mput sg 60 (xN σ)), la)
  refine A_if_ne (tgt := 19) dX8_byTurns_9 rfl (fun h_1 => ?_) (fun h_1 => ?_)
  · skip
    have h_1' := b2i_n.mp h_1
    obtain ⟨n1, hn1, rfl⟩ := nI_ex (m := 4) h_1'
    have hc_n1 : (nI n1).toNatClampNeg = n1 := nI_clamp (by omega)
    refine A_aload_n dX8_byTurns_19 rfl rfl ?_
    refine A_iload_n dX8_byTurns_20 rfl rfl ?_
    refine A_iconst (v := 1) dX8_byTurns_21 (by decide) ?_
    refine A_callV (n := 0) dX8_byTurns_22 kvX8_makes mlX8_332 rfl (az_rc_obj clX8 (hM 0 _ rfl)) (r_makes4 l G (d + 23) sh sg la kp tr (xN σ) n1 hM (by omega) hO hL (fun p hp => (hW.1.1.2.2.2 p hp).2.2.1)) (by omega) (Nat.le_refl _) (Nat.le_refl _) rfl (Nat.le_of_ble_eq_true rfl) (fun r S1 hp => ?_)
    obtain ⟨rfl, rfl⟩ := hp
    show AW l G mX8_byTurns (d + 32) (az_F G Post) 0 0 25 [some (.ref 60), some (.int (nI n1))] [.int (b2i (zmk n1 (xN σ) true = true))] (sh, (mput sg 60 (xN σ)), la)
    refine A_if_eq (tgt := 32) dX8_byTurns_25 rfl (fun h_2 => ?_) (fun h_2 => ?_)
    · skip
      have h_2' := b2i_0.mp h_2
      refine A_iconst (v := 0) dX8_byTurns_32 (by decide) ?_
      have hq : (q_byTurns σ (nI n1)) = (0, σ) := by
        unfold q_byTurns b2i
        rw [if_pos h_1', hc_n1, if_neg h_2']
      exact A_iret dX8_byTurns_33 rfl (hP _ _ (RQ_i hq (hR.fin0 (sC.rf sg))))
    · skip
      have h_2' := b2i_n.mp h_2
      refine A_iconst (v := 1) dX8_byTurns_28 (by decide) ?_
      refine A_goto (tgt := 33) dX8_byTurns_29 rfl ?_
      have hq : (q_byTurns σ (nI n1)) = (1, σ) := by
        unfold q_byTurns b2i
        rw [if_pos h_1', hc_n1, if_pos h_2']
      exact A_iret dX8_byTurns_33 rfl (hP _ _ (RQ_i hq (hR.fin0 (sC.rf sg))))
  · skip
    have h_1' := b2i_0.mp h_1
    refine A_aload_n dX8_byTurns_12 rfl rfl ?_
    refine A_bipush (v := (-2)) dX8_byTurns_13 (by decide) ?_
    refine A_callV (n := 0) dX8_byTurns_15 kvX8_refuse mlX8_101 rfl (az_rc_obj clX8 (hM 0 _ rfl)) (c_X8_refuse l G (d + 31) sh (mput sg 60 (xN σ)) la kp tr (-2) 0 hM (by decide) (by decide)) (by omega) (Nat.le_refl _) (Nat.le_refl _) rfl (Nat.le_of_ble_eq_true rfl) (fun r S1 hp => ?_)
    obtain ⟨rfl, rfl⟩ := hp
    show AW l G mX8_byTurns (d + 32) (az_F G Post) 0 0 18 [some (.ref 60), some (.int n)] [.int (-2)] (sh, (az_w (mput sg 60 (xN σ)) 76 (0 + 2) ((mput sg 60 (xN σ)) 76 (0 + 2) + 1)), la)
    have hq : (q_byTurns σ n) = ((-2), (rfs σ 0)) := by
      unfold q_byTurns
      try simp only [h_1', and_true, true_and, and_false, false_and, and_self, or_true, true_or, or_false, false_or, not_true_eq_false, not_false_eq_true, if_true, if_false, ite_true, ite_false, decide_true, decide_false, reduceIte]
      first | done | rfl
    exact A_iret dX8_byTurns_18 rfl (hP _ _ (RQ_i hq ((hR.fin0 (sC.rf sg)).ref (k := 0) (by decide))))
set_option maxHeartbeats 1000000 in
set_option maxRecDepth 100000 in
theorem r_tellBelow (l : Launch) (G : az_Gh) (d : Nat) (sh : List az_Sh) (u : Nat → Nat → Int32) (la : Nat → Nat → Int64) (kp tr : Option Nat) (c : CT) (p q : Nat) (hM : az_at sh 60 (lyM 60 kp tr)) (hO : cOk c) (hp : p < cN c) (hq : q < cN c) : FM l G (d) mX8_tellBelow [.ref 60, .int (nI p), .int (nI q)] (sh, (mput u 60 c), la) (none) (sh, mput (va_up u 84 (zpn (cN c) (u 84) p q (cN c))) 60 c, la) := by
  refine az_fm knX8_tellBelow (Nat.le_of_ble_eq_true rfl) rfl (fun Post hP => ?_)
  show AW l G mX8_tellBelow (d) (az_F G Post) 0 0 0 [some (.ref 60), some (.int (nI p)), some (.int (nI q)), none, none] [] (sh, (mput u 60 c), la)
  have h8 := hO.2
  refine A_aload_n dX8_tellBelow_0 rfl rfl ?_
  refine B_getR (r := 84) dX8_tellBelow_1 flX8_77 (hM 0 _ rfl) rfl ?_
  refine A_iload_n dX8_tellBelow_4 rfl rfl ?_
  refine B_ialdV (i := q) (u 84 q) dX8_tellBelow_5 (hM 24 _ rfl) (by decide) (rfl) (by omega) (congrFun (mput_ne (by decide) (by decide)) _) ?_
  refine A_iconst (v := 1) dX8_tellBelow_6 (by decide) ?_
  refine A_iload_n dX8_tellBelow_7 rfl rfl ?_
  refine A_ishl dX8_tellBelow_8 ?_
  refine A_ior dX8_tellBelow_9 ?_
  refine A_istore_n (lo2 := [some (.ref 60), some (.int (nI p)), some (.int (nI q)), some (.int (u 84 q ||| (1 <<< (nI q &&& 31)))), none]) dX8_tellBelow_10 rfl (by decide) rfl ?_
  refine A_iconst (v := 0) dX8_tellBelow_11 (by decide) ?_
  refine A_istore (lo2 := [some (.ref 60), some (.int (nI p)), some (.int (nI q)), some (.int (u 84 q ||| (1 <<< (nI q &&& 31)))), some (.int 0)]) dX8_tellBelow_12 (by decide) rfl ?_
  refine B_sg (congrArg (fun z => mput z 60 c) (show u = (va_up u 84 (zpn (cN c) (u 84) p q 0)) by rw [zpn_0, az_up_id])) ?_
  have loop : ∀ (q_i9 i9 : Nat), i9 + q_i9 = cN c → AW l G mX8_tellBelow (d) (az_F G Post) 0 0 14 [some (.ref 60), some (.int (nI p)), some (.int (nI q)), some (.int (u 84 q ||| (1 <<< (nI q &&& 31)))), some (.int (nI i9))] [] (sh, (mput (va_up u 84 (zpn (cN c) (u 84) p q i9)) 60 c), la) := by
    intro q_i9
    induction q_i9 with
    | zero =>
      intro i9  hi_i9  
      have hN_i9 : i9 = cN c := by omega
      subst i9
      refine A_iload dX8_tellBelow_14 rfl ?_
      refine A_aload_n dX8_tellBelow_16 rfl rfl ?_
      refine B_getV (nI (cN c)) dX8_tellBelow_17 flX8_88 (hM 0 _ rfl) rfl ((mr_14 _ _ _).trans hO.1) ?_
      refine A_icmp_ge (tgt := 65) dX8_tellBelow_20 rfl (fun h_1 => ?_) (fun h_1 => ?_)
      · skip
        exact A_vret dX8_tellBelow_65 rfl (az_pv hP (rfl))
      · skip
        exact absurd (Int32.le_refl _) h_1
    | succ q_i9 ih =>
      intro i9  hi_i9  
      refine A_iload dX8_tellBelow_14 rfl ?_
      refine A_aload_n dX8_tellBelow_16 rfl rfl ?_
      refine B_getV (nI (cN c)) dX8_tellBelow_17 flX8_88 (hM 0 _ rfl) rfl ((mr_14 _ _ _).trans hO.1) ?_
      refine A_icmp_ge (tgt := 65) dX8_tellBelow_20 rfl (fun h_2 => ?_) (fun h_2 => ?_)
      · skip
        exact absurd h_2 (nI_ge (by omega) (by omega))
      · skip
        refine A_aload_n dX8_tellBelow_23 rfl rfl ?_
        refine B_getR (r := 84) dX8_tellBelow_24 flX8_77 (hM 0 _ rfl) rfl ?_
        refine A_iload dX8_tellBelow_27 rfl ?_
        refine A_dup2 dX8_tellBelow_29 rfl rfl ?_
        refine B_ialdV (i := i9) (u 84 i9) dX8_tellBelow_30 (hM 24 _ rfl) (by decide) (rfl) (by omega) ((congrFun (mput_ne (by decide) (by decide)) _).trans ((congrFun az_up_self _).trans (zpn_at _ _ _ _ _))) ?_
        refine A_iload dX8_tellBelow_31 rfl ?_
        refine A_iload_n dX8_tellBelow_33 rfl rfl ?_
        refine A_icmp_eq (tgt := 52) dX8_tellBelow_34 rfl (fun h_3 => ?_) (fun h_3 => ?_)
        · skip
          refine A_iload_n dX8_tellBelow_52 rfl rfl ?_
          refine A_goto (tgt := 57) dX8_tellBelow_53 rfl ?_
          refine A_ior dX8_tellBelow_57 ?_
          refine B_iast (i := i9) dX8_tellBelow_58 (hM 24 _ rfl) (by decide) (rfl) (by omega) ?_
          refine B_sg (show _ = (mput (az_w (va_up u 84 (zpn (cN c) (u 84) p q i9)) 84 i9 (u 84 i9 ||| (u 84 q ||| (1 <<< (nI q &&& 31))))) 60 c) from mput_wk (by decide) (by decide)) ?_
          refine B_sg (show _ = mput (va_up u 84 (zpn (cN c) (u 84) p q (i9 + 1))) 60 c from congrArg (fun z => mput z 60 c) ((az_w_up _ _ _ _ _).trans (congrArg (va_up u 84) (zpn_y (Or.inl ((nI_eq (by omega) (by omega)).mp h_3)))))) ?_
          refine A_iinc (v := nI (i9 + 1)) (lo2 := [some (.ref 60), some (.int (nI p)), some (.int (nI q)), some (.int (u 84 q ||| (1 <<< (nI q &&& 31)))), some (.int (nI (i9 + 1)))]) dX8_tellBelow_59 rfl (nI_1 i9) (by decide) rfl ?_
          refine A_goto (tgt := 14) dX8_tellBelow_62 rfl ?_
          refine ih (i9 + 1) (by omega)
        · skip
          refine A_aload_n dX8_tellBelow_37 rfl rfl ?_
          refine B_getR (r := 84) dX8_tellBelow_38 flX8_77 (hM 0 _ rfl) rfl ?_
          refine A_iload dX8_tellBelow_41 rfl ?_
          refine B_ialdV (i := i9) (u 84 i9) dX8_tellBelow_43 (hM 24 _ rfl) (by decide) (rfl) (by omega) ((congrFun (mput_ne (by decide) (by decide)) _).trans ((congrFun az_up_self _).trans (zpn_at _ _ _ _ _))) ?_
          refine A_iload_n dX8_tellBelow_44 rfl rfl ?_
          refine A_ishr dX8_tellBelow_45 ?_
          refine A_iconst (v := 1) dX8_tellBelow_46 (by decide) ?_
          refine A_iand dX8_tellBelow_47 ?_
          refine A_iconst (v := 1) dX8_tellBelow_48 (by decide) ?_
          refine A_icmp_ne (tgt := 56) dX8_tellBelow_49 rfl (fun h_4 => ?_) (fun h_4 => ?_)
          · skip
            refine A_iconst (v := 0) dX8_tellBelow_56 (by decide) ?_
            refine A_ior dX8_tellBelow_57 ?_
            refine B_iast (i := i9) dX8_tellBelow_58 (hM 24 _ rfl) (by decide) (rfl) (by omega) ?_
            refine B_sg (show _ = (mput (az_w (va_up u 84 (zpn (cN c) (u 84) p q i9)) 84 i9 (u 84 i9 ||| 0)) 60 c) from mput_wk (by decide) (by decide)) ?_
            refine B_sg (show _ = mput (va_up u 84 (zpn (cN c) (u 84) p q (i9 + 1))) 60 c from congrArg (fun z => mput z 60 c) ((az_w_up _ _ _ _ _).trans (congrArg (va_up u 84) ((congrArg (va_up _ i9) (show u 84 i9 ||| 0 = zpn (cN c) (u 84) p q i9 i9 by rw [Int32.or_zero, zpn_at])).trans ((az_up_id _ _).trans (zpn_n (fun z => z.elim (fun y => h_3 (by rw [y])) (fun y => h_4 (of_decide_eq_true y))))))))) ?_
            refine A_iinc (v := nI (i9 + 1)) (lo2 := [some (.ref 60), some (.int (nI p)), some (.int (nI q)), some (.int (u 84 q ||| (1 <<< (nI q &&& 31)))), some (.int (nI (i9 + 1)))]) dX8_tellBelow_59 rfl (nI_1 i9) (by decide) rfl ?_
            refine A_goto (tgt := 14) dX8_tellBelow_62 rfl ?_
            refine ih (i9 + 1) (by omega)
          · skip
            refine A_iload_n dX8_tellBelow_52 rfl rfl ?_
            refine A_goto (tgt := 57) dX8_tellBelow_53 rfl ?_
            refine A_ior dX8_tellBelow_57 ?_
            refine B_iast (i := i9) dX8_tellBelow_58 (hM 24 _ rfl) (by decide) (rfl) (by omega) ?_
            refine B_sg (show _ = (mput (az_w (va_up u 84 (zpn (cN c) (u 84) p q i9)) 84 i9 (u 84 i9 ||| (u 84 q ||| (1 <<< (nI q &&& 31))))) 60 c) from mput_wk (by decide) (by decide)) ?_
            refine B_sg (show _ = mput (va_up u 84 (zpn (cN c) (u 84) p q (i9 + 1))) 60 c from congrArg (fun z => mput z 60 c) ((az_w_up _ _ _ _ _).trans (congrArg (va_up u 84) (zpn_y (Or.inr (decide_eq_true h_4)))))) ?_
            refine A_iinc (v := nI (i9 + 1)) (lo2 := [some (.ref 60), some (.int (nI p)), some (.int (nI q)), some (.int (u 84 q ||| (1 <<< (nI q &&& 31)))), some (.int (nI (i9 + 1)))]) dX8_tellBelow_59 rfl (nI_1 i9) (by decide) rfl ?_
            refine A_goto (tgt := 14) dX8_tellBelow_62 rfl ?_
            refine ih (i9 + 1) (by omega)
  exact loop (cN c) 0 (by omega)
theorem pp_l {c : CT} {x : Int64} (hO : cOk c) : (0 ≤ x ∧ x ≤ (cPp c - 1).toInt64) ↔ zIn (cN c) x := by
  have h8 := hO.2
  have e : (cPp c - 1).toInt = (cN c : Int) - 1 := by
    rw [hO.1, Int32.toInt_sub, nI_toInt (by omega), show (1 : Int32).toInt = 1 by decide]
    exact Int.bmod_eq_of_le (by omega) (by omega)
  unfold zIn
  rw [Int64.le_iff_toInt_le (y := (cPp c - 1).toInt64), Int64.lt_iff_toInt_lt, Int32.toInt_toInt64, Int32.toInt_toInt64, e, nI_toInt (by omega)]
  exact ⟨fun h => ⟨h.1, by omega⟩, fun h => ⟨h.1, by omega⟩⟩
theorem zInB_b {N : Nat} {a : Int64} : zInB N a = true ↔ zIn N a := ⟨zInB_i, zInB_t⟩
theorem zpx_eq {N : Nat} {a b : Int64} (hN : N ≤ 8) (ha : zIn N a) (hb : zIn N b) : a.toInt32 = b.toInt32 ↔ a = b := by
  constructor
  · intro h
    have e : ∀ x : Int64, zIn N x → x.toInt32.toInt64 = x := by
      intro x hx
      have h1 := Int64.le_iff_toInt_le.mp hx.1
      have h2 := Int64.lt_iff_toInt_lt.mp hx.2
      rw [Int32.toInt_toInt64, nI_toInt (by omega)] at h2
      rw [show (0 : Int64).toInt = 0 by decide] at h1
      refine Int64.toInt_inj.mp ?_
      rw [Int32.toInt_toInt64, Int64.toInt_toInt32]
      exact Int.bmod_eq_of_le (by omega) (by omega)
    rw [← e a ha, ← e b hb, h]
  · intro h; rw [h]
theorem zpn_cong {N : Nat} {B B' : Nat → Int32} {p q : Nat} (hq : q < N) (h : ∀ j, j < N → B j = B' j) : ∀ j, j < N → zpn N B p q N j = zpn N B' p q N j := by
  intro j hj
  unfold zpn zbl
  rw [h j hj, h q hq]
set_option maxHeartbeats 1000000 in
set_option maxRecDepth 100000 in
theorem r_isPersonL (l : Launch) (G : az_Gh) (d : Nat) (sh : List az_Sh) (u : Nat → Nat → Int32) (la : Nat → Nat → Int64) (kp tr : Option Nat) (c : CT) (x : Int64) (hM : az_at sh 60 (lyM 60 kp tr)) (hO : cOk c) : FM l G (d + 1) mX8_isPerson [.ref 60, .long x] (sh, (mput u 60 c), la) (some (.int (b2i (zInB (cN c) x = true)))) (sh, mput u 60 c, la) := by
  refine az_fm knX8_isPerson (Nat.le_of_ble_eq_true rfl) rfl (fun Post hP => ?_)
  show AW l G mX8_isPerson (d + 1) (az_F G Post) 0 0 0 [some (.ref 60), some (.long x), none] [] (sh, (mput u 60 c), la)
  refine A_lload_n dX8_isPerson_0 rfl rfl ?_
  refine A_lconst (v := 0) dX8_isPerson_1 (by decide) ?_
  refine A_aload_n dX8_isPerson_2 rfl rfl ?_
  refine B_getV (cPp c) dX8_isPerson_3 flX8_88 (hM 0 _ rfl) rfl (mr_14 _ _ _) ?_
  refine A_iconst (v := 1) dX8_isPerson_6 (by decide) ?_
  refine A_isub dX8_isPerson_7 ?_
  refine A_i2l dX8_isPerson_8 ?_
  refine A_callS (n := 0) dX8_isPerson_9 ksX8_in mlX8_91 rfl (c_X8_in l G d sh (mput u 60 c) la x 0 (Int32.toInt64 (cPp c - 1))) (by omega) (Nat.le_refl _) (Nat.le_refl _) rfl (Nat.le_of_ble_eq_true rfl) (fun r S1 hp => ?_)
  obtain ⟨rfl, rfl⟩ := hp
  show AW l G mX8_isPerson (d + 1) (az_F G Post) 0 0 12 [some (.ref 60), some (.long x), none] [.int (b2i (0 ≤ x ∧ x ≤ (Int32.toInt64 (cPp c - 1))))] (sh, (mput u 60 c), la)
  refine A_zret dX8_isPerson_12 rfl (narrow_b2i _) (az_pi hP ?_ (rfl))
  exact b2i_iff ((pp_l hO).trans zInB_b.symm)
set_option maxHeartbeats 1000000 in
set_option maxRecDepth 100000 in
theorem r_findClash (l : Launch) (G : az_Gh) (d : Nat) (sh : List az_Sh) (u : Nat → Nat → Int32) (la : Nat → Nat → Int64) (kp tr : Option Nat) (c : CT) (σ : SGM) (s n : Nat) (hM : az_at sh 60 (lyM 60 kp tr)) (hO : cOk c) (hs8 : s < 8) (hla : la (65 + s) = fEl (xS σ s)) (hz : 2 * n ≤ fSz (xS σ s)) (hz4 : fSz (xS σ s) ≤ 40) : AM l G (d + 2) mX8_findClash [.ref 60, .int (nI s), .int (nI n)] (sh, (mput u 60 c), la) 0 0 (fun r1 S1 => r1 = some (.int (oI (zclash (cN c) (q_r1 σ (nI s)) (q_r2 σ (nI s)) n))) ∧ ∃ u2, sC u u2 ∧ (zclash (cN c) (q_r1 σ (nI s)) (q_r2 σ (nI s)) n = none → ∀ j, j < cN c → u2 84 j = zcl (cN c) (q_r1 σ (nI s)) (q_r2 σ (nI s)) n j) ∧ S1 = (sh, mput u2 60 c, la)) := by
  refine az_am knX8_findClash (Nat.le_of_ble_eq_true rfl) rfl (fun Post hP => ?_)
  show AW l G mX8_findClash (d + 2) (az_F G Post) 0 0 0 [some (.ref 60), some (.int (nI s)), some (.int (nI n)), none, none, none, none, none] [] (sh, (mput u 60 c), la)
  have h8 := hO.2
  refine A_iconst (v := 0) dX8_findClash_0 (by decide) ?_
  refine A_istore_n (lo2 := [some (.ref 60), some (.int (nI s)), some (.int (nI n)), some (.int 0), none, none, none, none]) dX8_findClash_1 rfl (by decide) rfl ?_
  refine B_sg (congrArg (fun z => mput z 60 c) (show u = (va_up u 84 (fa_fill (fun _ => 0) (u 84) 0)) by rw [fa_fill_0, az_up_id])) ?_
  have loop : ∀ (q_j9 j9 : Nat), j9 + q_j9 = cN c → AW l G mX8_findClash (d + 2) (az_F G Post) 0 0 2 [some (.ref 60), some (.int (nI s)), some (.int (nI n)), some (.int (nI j9)), none, none, none, none] [] (sh, (mput (va_up u 84 (fa_fill (fun _ => 0) (u 84) j9)) 60 c), la) := by
    intro q_j9
    induction q_j9 with
    | zero =>
      intro j9  hi_j9  
      have hN_j9 : j9 = cN c := by omega
      subst j9
      refine A_iload_n dX8_findClash_2 rfl rfl ?_
      refine A_aload_n dX8_findClash_3 rfl rfl ?_
      refine B_getV (nI (cN c)) dX8_findClash_4 flX8_88 (hM 0 _ rfl) rfl ((mr_14 _ _ _).trans hO.1) ?_
      refine A_icmp_ge (tgt := 23) dX8_findClash_7 rfl (fun h_1 => ?_) (fun h_1 => ?_)
      · skip
        refine A_iconst (v := 0) dX8_findClash_23 (by decide) ?_
        refine A_istore_n (lo2 := [some (.ref 60), some (.int (nI s)), some (.int (nI n)), some (.int 0), none, none, none, none]) dX8_findClash_24 rfl (by decide) rfl ?_
        have loop2 : ∀ (q_i9 i9 : Nat) (u9 : Nat → Nat → Int32), i9 + q_i9 = n → sC u u9 → (∀ j, j < cN c → u9 84 j = zcl (cN c) (q_r1 σ (nI s)) (q_r2 σ (nI s)) i9 j) → (∀ k, k < i9 → zclB (cN c) (q_r1 σ (nI s)) (q_r2 σ (nI s)) k = false) → AW l G mX8_findClash (d + 2) (az_F G Post) 0 0 25 [some (.ref 60), some (.int (nI s)), some (.int (nI n)), some (.int (nI i9)), none, none, none, none] [] (sh, (mput u9 60 c), la) := by
          intro q_i9
          induction q_i9 with
          | zero =>
            intro i9 u9 hi_i9 hs9 hb9 hno 
            have hN_i9 : i9 = n := by omega
            subst i9
            refine A_iload_n dX8_findClash_25 rfl rfl ?_
            refine A_iload_n dX8_findClash_26 rfl rfl ?_
            refine A_icmp_ge (tgt := 118) dX8_findClash_27 rfl (fun h_2 => ?_) (fun h_2 => ?_)
            · skip
              refine A_iconst (v := (-1)) dX8_findClash_118 (by decide) ?_
              have hz : zclash (cN c) (q_r1 σ (nI s)) (q_r2 σ (nI s)) n = none := zfind_none hno
              exact A_iret dX8_findClash_119 rfl (hP _ _ ⟨by rw [hz]; rfl, u9, hs9, fun _ => hb9, rfl⟩)
            · skip
              exact absurd (Int32.le_refl _) h_2
          | succ q_i9 ih =>
            intro i9 u9 hi_i9 hs9 hb9 hno 
            refine A_iload_n dX8_findClash_25 rfl rfl ?_
            refine A_iload_n dX8_findClash_26 rfl rfl ?_
            refine A_icmp_ge (tgt := 118) dX8_findClash_27 rfl (fun h_3 => ?_) (fun h_3 => ?_)
            · skip
              exact absurd h_3 (nI_ge (by omega) (by omega))
            · skip
              refine A_aload_n dX8_findClash_30 rfl rfl ?_
              refine B_getR (r := 64) dX8_findClash_31 flX8_21 (hM 0 _ rfl) rfl ?_
              refine A_iload_n dX8_findClash_34 rfl rfl ?_
              have hL_s := lyM_row' hM (show s < 8 by omega)
              refine B_aald (i := s) (r := (65 + s)) dX8_findClash_35 (hM 4 _ rfl) (by decide) rfl rfl (by decide) (rfl) (by omega) (zsm_r (show s < 8 by omega)) ?_
              refine A_iconst (v := 2) dX8_findClash_36 (by decide) ?_
              refine A_iload_n dX8_findClash_37 rfl rfl ?_
              refine A_imul dX8_findClash_38 ?_
              refine B_laldV (i := (2 * i9)) (q_r1 σ (nI s) i9) dX8_findClash_39 (hL_s 0 _ rfl) (by decide) (nI_mul 2 i9) (by omega) ((congrFun hla _).trans (q_r1_l hs8 (by omega) (by omega)).symm) ?_
              refine A_lstore (lo2 := [some (.ref 60), some (.int (nI s)), some (.int (nI n)), some (.int (nI i9)), some (.long (q_r1 σ (nI s) i9)), none, none, none]) dX8_findClash_40 (by decide) rfl ?_
              refine A_aload_n dX8_findClash_42 rfl rfl ?_
              refine B_getR (r := 64) dX8_findClash_43 flX8_21 (hM 0 _ rfl) rfl ?_
              refine A_iload_n dX8_findClash_46 rfl rfl ?_
              refine B_aald (i := s) (r := (65 + s)) dX8_findClash_47 (hM 4 _ rfl) (by decide) rfl rfl (by decide) (rfl) (by omega) (zsm_r (show s < 8 by omega)) ?_
              refine A_iconst (v := 2) dX8_findClash_48 (by decide) ?_
              refine A_iload_n dX8_findClash_49 rfl rfl ?_
              refine A_imul dX8_findClash_50 ?_
              refine A_iconst (v := 1) dX8_findClash_51 (by decide) ?_
              refine A_iadd dX8_findClash_52 ?_
              refine B_laldV (i := (2 * i9 + 1)) (q_r2 σ (nI s) i9) dX8_findClash_53 (hL_s 0 _ rfl) (by decide) ((congrArg (· + 1) (nI_mul 2 i9)).trans (nI_1 _)) (by omega) ((congrFun hla _).trans (q_r2_l hs8 (by omega) (by omega)).symm) ?_
              refine A_lstore (lo2 := [some (.ref 60), some (.int (nI s)), some (.int (nI n)), some (.int (nI i9)), some (.long (q_r1 σ (nI s) i9)), none, some (.long (q_r2 σ (nI s) i9)), none]) dX8_findClash_54 (by decide) rfl ?_
              refine A_aload_n dX8_findClash_56 rfl rfl ?_
              refine A_lload dX8_findClash_57 rfl ?_
              refine A_callV (n := 0) dX8_findClash_59 kvX8_isPerson mlX8_112 rfl (az_rc_obj clX8 (hM 0 _ rfl)) (r_isPersonL l G d sh u9 la kp tr c (q_r1 σ (nI s) i9) hM hO) (by omega) (Nat.le_refl _) (Nat.le_refl _) rfl (Nat.le_of_ble_eq_true rfl) (fun r S1 hp => ?_)
              obtain ⟨rfl, rfl⟩ := hp
              show AW l G mX8_findClash (d + 2) (az_F G Post) 0 0 62 [some (.ref 60), some (.int (nI s)), some (.int (nI n)), some (.int (nI i9)), some (.long (q_r1 σ (nI s) i9)), none, some (.long (q_r2 σ (nI s) i9)), none] [.int (b2i (zInB (cN c) (q_r1 σ (nI s) i9) = true))] (sh, (mput u9 60 c), la)
              refine A_if_eq (tgt := 100) dX8_findClash_62 rfl (fun h_4 => ?_) (fun h_4 => ?_)
              · skip
                have h_4' := b2i_0.mp h_4
                refine A_iload_n dX8_findClash_100 rfl rfl ?_
                have hz : zclash (cN c) (q_r1 σ (nI s)) (q_r2 σ (nI s)) n = some i9 := zfind_some (by omega) (by unfold zclB; rw [zpg_1 (fun q => h_4' (zInB_t q))]; rfl) hno
                exact A_iret dX8_findClash_101 rfl (hP _ _ ⟨by rw [hz]; rfl, u9, hs9, (fun q => by rw [hz] at q; cases q), rfl⟩)
              · skip
                have h_4' := b2i_n.mp h_4
                have hin1 := zInB_i h_4'
                refine A_aload_n dX8_findClash_65 rfl rfl ?_
                refine A_lload dX8_findClash_66 rfl ?_
                refine A_callV (n := 0) dX8_findClash_68 kvX8_isPerson mlX8_112 rfl (az_rc_obj clX8 (hM 0 _ rfl)) (r_isPersonL l G d sh u9 la kp tr c (q_r2 σ (nI s) i9) hM hO) (by omega) (Nat.le_refl _) (Nat.le_refl _) rfl (Nat.le_of_ble_eq_true rfl) (fun r S1 hp => ?_)
                obtain ⟨rfl, rfl⟩ := hp
                show AW l G mX8_findClash (d + 2) (az_F G Post) 0 0 71 [some (.ref 60), some (.int (nI s)), some (.int (nI n)), some (.int (nI i9)), some (.long (q_r1 σ (nI s) i9)), none, some (.long (q_r2 σ (nI s) i9)), none] [.int (b2i (zInB (cN c) (q_r2 σ (nI s) i9) = true))] (sh, (mput u9 60 c), la)
                refine A_if_eq (tgt := 100) dX8_findClash_71 rfl (fun h_5 => ?_) (fun h_5 => ?_)
                · skip
                  have h_5' := b2i_0.mp h_5
                  refine A_iload_n dX8_findClash_100 rfl rfl ?_
                  have hz : zclash (cN c) (q_r1 σ (nI s)) (q_r2 σ (nI s)) n = some i9 := zfind_some (by omega) (by unfold zclB; rw [zpg_2 (fun q => h_5' (zInB_t q))]; rfl) hno
                  exact A_iret dX8_findClash_101 rfl (hP _ _ ⟨by rw [hz]; rfl, u9, hs9, (fun q => by rw [hz] at q; cases q), rfl⟩)
                · skip
                  have h_5' := b2i_n.mp h_5
                  have hin2 := zInB_i h_5'
                  have ha1 := zIn_at h8 hin1
                  have ha2 := zIn_at h8 hin2
                  have hb2 := hb9 _ ha2.2
                  refine A_lload dX8_findClash_74 rfl ?_
                  refine A_lload dX8_findClash_76 rfl ?_
                  refine A_lcmp dX8_findClash_78 ?_
                  refine A_if_eq (tgt := 100) dX8_findClash_79 rfl (fun h_6 => ?_) (fun h_6 => ?_)
                  · skip
                    refine A_iload_n dX8_findClash_100 rfl rfl ?_
                    have hz : zclash (cN c) (q_r1 σ (nI s)) (q_r2 σ (nI s)) n = some i9 := zfind_some (by omega) (by unfold zclB; rw [zpg_3 ((zpx_eq h8 hin1 hin2).mpr (lcmp_0.mp h_6))]; rfl) hno
                    exact A_iret dX8_findClash_101 rfl (hP _ _ ⟨by rw [hz]; rfl, u9, hs9, (fun q => by rw [hz] at q; cases q), rfl⟩)
                  · skip
                    refine A_aload_n dX8_findClash_82 rfl rfl ?_
                    refine B_getR (r := 84) dX8_findClash_83 flX8_77 (hM 0 _ rfl) rfl ?_
                    refine A_lload dX8_findClash_86 rfl ?_
                    refine A_l2i dX8_findClash_88 ?_
                    refine B_top ha2.1 ?_
                    refine B_ialdV (i := zpx (q_r2 σ (nI s) i9)) (u9 84 (zpx (q_r2 σ (nI s) i9))) dX8_findClash_89 (hM 24 _ rfl) (by decide) (rfl) (by have := ha2.2; omega) (congrFun (mput_ne (by decide) (by decide)) _) ?_
                    refine A_lload dX8_findClash_90 rfl ?_
                    refine A_l2i dX8_findClash_92 ?_
                    refine B_top ha1.1 ?_
                    refine A_ishr dX8_findClash_93 ?_
                    refine A_iconst (v := 1) dX8_findClash_94 (by decide) ?_
                    refine A_iand dX8_findClash_95 ?_
                    refine A_iconst (v := 1) dX8_findClash_96 (by decide) ?_
                    refine A_icmp_ne (tgt := 102) dX8_findClash_97 rfl (fun h_7 => ?_) (fun h_7 => ?_)
                    · skip
                      have hpg : zpg (cN c) (zcl (cN c) (q_r1 σ (nI s)) (q_r2 σ (nI s)) i9) (q_r1 σ (nI s) i9) (q_r2 σ (nI s) i9) = true := zpg_5 hin1 hin2 (fun q => h_6 (lcmp_0.mpr ((zpx_eq h8 hin1 hin2).mp q))) (fun q => h_7 (by rw [hb2]; exact of_decide_eq_true q))
                      refine A_aload_n dX8_findClash_102 rfl rfl ?_
                      refine A_lload dX8_findClash_103 rfl ?_
                      refine A_l2i dX8_findClash_105 ?_
                      refine B_top ha1.1 ?_
                      refine A_lload dX8_findClash_106 rfl ?_
                      refine A_l2i dX8_findClash_108 ?_
                      refine B_top ha2.1 ?_
                      refine A_callV (n := 0) dX8_findClash_109 kvX8_tellBelow mlX8_318 rfl (az_rc_obj clX8 (hM 0 _ rfl)) (r_tellBelow l G (d + 1) sh u9 la kp tr c (zpx (q_r1 σ (nI s) i9)) (zpx (q_r2 σ (nI s) i9)) hM hO ha1.2 ha2.2) (by omega) (Nat.le_refl _) (Nat.le_refl _) rfl (Nat.le_of_ble_eq_true rfl) (fun r S1 hp => ?_)
                      obtain ⟨rfl, rfl⟩ := hp
                      show AW l G mX8_findClash (d + 2) (az_F G Post) 0 0 112 [some (.ref 60), some (.int (nI s)), some (.int (nI n)), some (.int (nI i9)), some (.long (q_r1 σ (nI s) i9)), none, some (.long (q_r2 σ (nI s) i9)), none] [] (sh, (mput (va_up u9 84 (zpn (cN c) (u9 84) (zpx (q_r1 σ (nI s) i9)) (zpx (q_r2 σ (nI s) i9)) (cN c))) 60 c), la)
                      refine A_iinc (v := nI (i9 + 1)) (lo2 := [some (.ref 60), some (.int (nI s)), some (.int (nI n)), some (.int (nI (i9 + 1))), some (.long (q_r1 σ (nI s) i9)), none, some (.long (q_r2 σ (nI s) i9)), none]) dX8_findClash_112 rfl (nI_1 i9) (by decide) rfl ?_
                      refine A_goto (tgt := 25) dX8_findClash_115 rfl ?_
                      refine A_forget (lo2 := [some (.ref 60), some (.int (nI s)), some (.int (nI n)), some (.int (nI (i9 + 1))), none, none, none, none]) ⟨rfl, rfl, rfl, rfl, trivial⟩ ?_
                      refine ih (i9 + 1) _ (by omega) (hs9.up (by decide) _) (fun j hj => by rw [az_up_self]; exact zpn_cong (zIn_at h8 hin2).2 hb9 j hj) (lt_s hno (by unfold zclB; rw [hpg]; rfl))
                    · skip
                      refine A_iload_n dX8_findClash_100 rfl rfl ?_
                      have hz : zclash (cN c) (q_r1 σ (nI s)) (q_r2 σ (nI s)) n = some i9 := zfind_some (by omega) (by unfold zclB; rw [zpg_4 (decide_eq_true (by rw [← hb2]; exact h_7))]; rfl) hno
                      exact A_iret dX8_findClash_101 rfl (hP _ _ ⟨by rw [hz]; rfl, u9, hs9, (fun q => by rw [hz] at q; cases q), rfl⟩)
        exact loop2 (n) 0 _ (by omega) ((sC.rf u).up (by decide) _) (fun j hj => by rw [az_up_self]; exact fa_fill_in hj) lt_0
      · skip
        exact absurd (Int32.le_refl _) h_1
    | succ q_j9 ih_j9 =>
      intro j9  hi_j9  
      refine A_iload_n dX8_findClash_2 rfl rfl ?_
      refine A_aload_n dX8_findClash_3 rfl rfl ?_
      refine B_getV (nI (cN c)) dX8_findClash_4 flX8_88 (hM 0 _ rfl) rfl ((mr_14 _ _ _).trans hO.1) ?_
      refine A_icmp_ge (tgt := 23) dX8_findClash_7 rfl (fun h_8 => ?_) (fun h_8 => ?_)
      · skip
        exact absurd h_8 (nI_ge (by omega) (by omega))
      · skip
        refine A_aload_n dX8_findClash_10 rfl rfl ?_
        refine B_getR (r := 84) dX8_findClash_11 flX8_77 (hM 0 _ rfl) rfl ?_
        refine A_iload_n dX8_findClash_14 rfl rfl ?_
        refine A_iconst (v := 0) dX8_findClash_15 (by decide) ?_
        refine B_iast (i := j9) dX8_findClash_16 (hM 24 _ rfl) (by decide) (rfl) (by omega) ?_
        refine B_sg (show _ = (mput (az_w (va_up u 84 (fa_fill (fun _ => 0) (u 84) j9)) 84 j9 0) 60 c) from mput_wk (by decide) (by decide)) ?_
        refine B_sg (show _ = mput (va_up u 84 (fa_fill (fun _ => 0) (u 84) (j9 + 1))) 60 c from congrArg (fun z => mput z 60 c) ((az_w_up _ _ _ _ _).trans (congrArg (va_up u 84) (fa_fill_up (fun _ => 0) (u 84) j9)))) ?_
        refine A_iinc (v := nI (j9 + 1)) (lo2 := [some (.ref 60), some (.int (nI s)), some (.int (nI n)), some (.int (nI (j9 + 1))), none, none, none, none]) dX8_findClash_17 rfl (nI_1 j9) (by decide) rfl ?_
        refine A_goto (tgt := 2) dX8_findClash_20 rfl ?_
        refine ih_j9 (j9 + 1) (by omega)
  exact loop (cN c) 0 (by omega)
