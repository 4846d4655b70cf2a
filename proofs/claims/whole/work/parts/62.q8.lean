theorem oI_p {q : Option Nat} {p : Nat} (hp : p < 2 ^ 31) (h : ∀ k, q = some k → k < 2 ^ 31) : oI q = nI p ↔ q = some p := by
  cases q with
  | none => exact ⟨fun e => absurd e.symm (nI_n1 hp), fun e => by cases e⟩
  | some k => exact ⟨fun e => congrArg some ((nI_eq (h k rfl) hp).mp e), fun e => by cases e; rfl⟩
theorem zbest_l {c : CT} (hO : cOk c) : ∀ k, zbest c = some k → k < 2 ^ 31 := fun k hk => by have := zb_lt _ _ _ hk; have := hO.2; omega
theorem zlast_none {f : Nat → Bool} : ∀ {n : Nat}, (∀ k, k < n → f k = false) → zlast f n = none
  | 0, _ => rfl
  | n + 1, h => by
    show (if f n = true then some n else zlast f n) = none
    rw [if_neg (by rw [h n (by omega)]; decide)]
    exact zlast_none (fun k hk => h k (by omega))
theorem zlast_some {f : Nat → Bool} {i : Nat} (hi : f i = true) : ∀ {n : Nat}, i < n → (∀ k, i < k → k < n → f k = false) → zlast f n = some i
  | 0, h, _ => absurd h (by omega)
  | n + 1, h, hn => by
    show (if f n = true then some n else zlast f n) = some i
    by_cases e : i = n
    · subst e; rw [if_pos hi]
    · rw [if_neg (by rw [hn n (by omega) (by omega)]; decide)]
      exact zlast_some hi (by omega) (fun k h1 h2 => hn k h1 (by omega))
theorem zlast_y {f : Nat → Bool} {n : Nat} (h : f n = true) : zlast f (n + 1) = some n := if_pos h
theorem zlast_n {f : Nat → Bool} {n : Nat} (h : ¬ f n = true) : zlast f (n + 1) = zlast f n := if_neg h
set_option maxHeartbeats 1000000 in
set_option maxRecDepth 100000 in
theorem x_airs (l : Launch) (G : az_Gh) (d : Nat) (sh : List az_Sh) (sg : Nat → Nat → Int32) (la : Nat → Nat → Int64) (g : GGM) (σ : SGM) (p w : Int32) (hX : az_at sh 0 lyX) (hK : KX g sg la σ) : AM l G (d + 32) mX7_airs [.ref 0, .int p, .int w] (sh, sg, la) 0 0 (XQ sh g (.int (q_airs σ p w).1) (q_airs σ p w).2) := by
  refine az_am knX7_airs (Nat.le_of_ble_eq_true rfl) rfl (fun Post hP => ?_)
  show AW l G mX7_airs (d + 32) (az_F G Post) 0 0 0 [some (.ref 0), some (.int p), some (.int w), none, none, none, none] [] (sh, sg, la)
  have hC := lyX_now hX
  have h8N := hK.ok.2
  refine A_aload_n dX7_airs_0 rfl rfl ?_
  refine B_getR (r := 1) dX7_airs_1 flX7_10 (hX 0 _ rfl) rfl ?_
  refine A_iload_n dX7_airs_4 rfl rfl ?_
  refine A_callV (n := 0) dX7_airs_5 kvX2_hasOne mlX7_127 rfl (az_rc_obj clX2 (hX 1 _ rfl)) (kx_hasOne l G (d + 31) sh sg la g σ p hX hK) (by omega) (Nat.le_refl _) (Nat.le_refl _) rfl (Nat.le_of_ble_eq_true rfl) (fun r S1 hp => ?_)
  obtain ⟨rfl, rfl⟩ := hp
  show AW l G mX7_airs (d + 32) (az_F G Post) 0 0 8 [some (.ref 0), some (.int p), some (.int w), none, none, none, none] [.int (b2i (0 ≤ p ∧ p < cPp (xN σ)))] (sh, sg, la)
  refine A_if_eq (tgt := 19) dX7_airs_8 rfl (fun h_1 => ?_) (fun h_1 => ?_)
  · skip
    have h_1' := b2i_0.mp h_1
    refine A_aload_n dX7_airs_19 rfl rfl ?_
    refine A_bipush (v := (-2)) dX7_airs_20 (by decide) ?_
    refine A_callV (n := 0) dX7_airs_22 kvX7_refuse mlX7_77 rfl (az_rc_obj clX7 (hX 0 _ rfl)) (c_X7_refuse l G (d + 30) sh sg la (-2) 0 hX (by decide) (by decide)) (by omega) (Nat.le_refl _) (Nat.le_refl _) rfl (Nat.le_of_ble_eq_true rfl) (fun r S1 hp => ?_)
    obtain ⟨rfl, rfl⟩ := hp
    show AW l G mX7_airs (d + 32) (az_F G Post) 0 0 25 [some (.ref 0), some (.int p), some (.int w), none, none, none, none] [.int (-2)] (sh, (az_w sg 43 0 (sg 43 0 + 1)), la)
    have hq : (q_airs σ p w) = ((-2), (rfs σ 0)) := by
      unfold q_airs
      try simp only [h_1', and_true, true_and, and_false, false_and, and_self, or_true, true_or, or_false, false_or, not_true_eq_false, not_false_eq_true, if_true, if_false, ite_true, ite_false, decide_true, decide_false, reduceIte]
      first | done | rfl | (rw [Int32.add_comm]; done)
    exact A_iret dX7_airs_25 rfl (hP _ _ (XQ_i hq (hK.ref (by decide))))
  · skip
    have h_1' := b2i_n.mp h_1
    refine A_iload_n dX7_airs_11 rfl rfl ?_
    refine A_iconst (v := 1) dX7_airs_12 (by decide) ?_
    refine A_callS (n := 0) dX7_airs_13 ksX7_isWithin mlX7_73 rfl (c_X7_isWithin l G (d + 31) sh sg la w 1) (by omega) (Nat.le_refl _) (Nat.le_refl _) rfl (Nat.le_of_ble_eq_true rfl) (fun r S1 hp => ?_)
    obtain ⟨rfl, rfl⟩ := hp
    show AW l G mX7_airs (d + 32) (az_F G Post) 0 0 16 [some (.ref 0), some (.int p), some (.int w), none, none, none, none] [.int (b2i (0 ≤ w ∧ w ≤ 1))] (sh, sg, la)
    refine A_if_ne (tgt := 26) dX7_airs_16 rfl (fun h_2 => ?_) (fun h_2 => ?_)
    · skip
      have h_2' := b2i_n.mp h_2
      obtain ⟨p1, hp1, rfl⟩ := nI_exp hK.ok h_1'
      have hc_p1 : (nI p1).toNatClampNeg = p1 := nI_clamp (by omega)
      refine A_iconst (v := 0) dX7_airs_26 (by decide) ?_
      refine A_istore_n (lo2 := [some (.ref 0), some (.int (nI p1)), some (.int w), some (.int 0), none, none, none]) dX7_airs_27 rfl (by decide) rfl ?_
      refine A_iconst (v := (-1)) dX7_airs_28 (by decide) ?_
      refine A_istore (lo2 := [some (.ref 0), some (.int (nI p1)), some (.int w), some (.int 0), some (.int (-1)), none, none]) dX7_airs_29 (by decide) rfl ?_
      refine A_aload_n dX7_airs_31 rfl rfl ?_
      refine B_getR (r := 13) dX7_airs_32 flX7_22 (hX 0 _ rfl) rfl ?_
      refine A_aload_n dX7_airs_35 rfl rfl ?_
      refine B_getR (r := 1) dX7_airs_36 flX7_10 (hX 0 _ rfl) rfl ?_
      have hF := lyX_fore hX
      have hT : az_at sh 14 (lyC 14) := lyF_C hF
      refine B_sg (zput_self sg 14).symm ?_
      refine A_callV (n := 0) dX7_airs_39 kvX3_begin mlX7_189 rfl (az_rc_obj clX3 (hX 13 _ rfl)) (f_X3_begin l G (d + 28) sh sg la 13 1 (ct sg 14) (xN σ) hF hC (by omega) hK.now hK.tl.1 hK.ctl hK.rng) (by omega) (Nat.le_refl _) (Nat.le_refl _) rfl (Nat.le_of_ble_eq_true rfl) (fun r S1 hp => ?_)
      obtain ⟨rfl, rfl⟩ := hp
      show AW l G mX7_airs (d + 32) (az_F G Post) 0 0 42 [some (.ref 0), some (.int (nI p1)), some (.int w), some (.int 0), some (.int (-1)), none, none] [.ref 14] (sh, (zput sg 14 (xN σ)), la)
      refine A_astore (lo2 := [some (.ref 0), some (.int (nI p1)), some (.int w), some (.int 0), some (.int (-1)), some (.ref 14), none]) dX7_airs_42 (by decide) rfl ?_
      refine A_iconst (v := 0) dX7_airs_44 (by decide) ?_
      refine A_istore (lo2 := [some (.ref 0), some (.int (nI p1)), some (.int w), some (.int 0), some (.int (-1)), some (.ref 14), some (.int 0)]) dX7_airs_45 (by decide) rfl ?_
      refine B_sg (congrArg (zput sg 14) (show xN σ = sAir (xN σ) (cAir (xN σ)) from rfl)) ?_
      have loop : ∀ (q_i9 i9 : Nat) (a9 : Int32) (x3 : Int32) (x4 : Int32), i9 + q_i9 = 41 → x3 = nI (fa_cnt (q_airP σ p1) i9) → x4 = oI (zlast (q_airP σ p1) i9) → AW l G mX7_airs (d + 32) (az_F G Post) 0 0 47 [some (.ref 0), some (.int (nI p1)), some (.int w), some (.int x3), some (.int x4), some (.ref 14), some (.int (nI i9))] [] (sh, (zput sg 14 (sAir (xN σ) a9)), la) := by
        intro q_i9
        induction q_i9 with
        | zero =>
          intro i9 a9 x3 x4 hi_i9  e_x3 e_x4
          have hN_i9 : i9 = 41 := by omega
          subst i9
          refine A_iload dX7_airs_47 rfl ?_
          refine A_bipush (v := 40) dX7_airs_49 (by decide) ?_
          refine A_icmp_gt (tgt := 83) dX7_airs_51 rfl (fun h_3 => ?_) (fun h_3 => ?_)
          · skip
            refine A_iload_n dX7_airs_83 rfl rfl ?_
            refine A_if_ne (tgt := 91) dX7_airs_84 rfl (fun h_4 => ?_) (fun h_4 => ?_)
            · skip
              refine A_iload dX7_airs_91 rfl ?_
              have hq : (q_airs σ (nI p1) w) = (x4, σ) := by
                unfold q_airs
                rw [if_pos ⟨h_1', h_2'⟩, hc_p1, if_neg h_4, e_x4]
              exact A_iret dX7_airs_93 rfl (hP _ _ (XQ_i hq (hK.put14 (cTl_air hK.ctl _))))
            · skip
              refine A_iload_n dX7_airs_87 rfl rfl ?_
              refine A_goto (tgt := 93) dX7_airs_88 rfl ?_
              have hq : (q_airs σ (nI p1) w) = (x3, σ) := by
                unfold q_airs
                rw [if_pos ⟨h_1', h_2'⟩, hc_p1, if_pos h_4, e_x3]
              exact A_iret dX7_airs_93 rfl (hP _ _ (XQ_i hq (hK.put14 (cTl_air hK.ctl _))))
          · skip
            exact absurd (by decide) h_3
        | succ q_i9 ih =>
          intro i9 a9 x3 x4 hi_i9  e_x3 e_x4
          refine A_iload dX7_airs_47 rfl ?_
          refine A_bipush (v := 40) dX7_airs_49 (by decide) ?_
          refine A_icmp_gt (tgt := 83) dX7_airs_51 rfl (fun h_5 => ?_) (fun h_5 => ?_)
          · skip
            exact absurd h_5 (nI_nlt (b := i9) (a := 40) (by omega) (by decide))
          · skip
            refine A_aload dX7_airs_54 rfl ?_
            refine A_iload dX7_airs_56 rfl ?_
            refine B_putI dX7_airs_58 fwX7_228 (hX 14 _ rfl) rfl ?_
            refine B_sg (show _ = (zput sg 14 (sAir (xN σ) (nI i9))) from zw_6 _ _ _ _) ?_
            refine A_aload dX7_airs_61 rfl ?_
            refine A_callV (n := 0) dX7_airs_63 kvX2_coldestOne mlX7_210 rfl (az_rc_obj clX2 (hX 14 _ rfl)) (z_X2_coldestOne l G (d + 29) sh sg la 14 (sAir (xN σ) (nI i9)) hT ((cRng_air hK.rng (i := i9) (by omega))).1 (cRng_pos (cRng_air hK.rng (i := i9) (by omega)))) (by omega) (Nat.le_refl _) (Nat.le_refl _) rfl (Nat.le_of_ble_eq_true rfl) (fun r S1 hp => ?_)
            obtain ⟨rfl, rfl⟩ := hp
            show AW l G mX7_airs (d + 32) (az_F G Post) 0 0 66 [some (.ref 0), some (.int (nI p1)), some (.int w), some (.int x3), some (.int x4), some (.ref 14), some (.int (nI i9))] [.int (oI (zbest (sAir (xN σ) (nI i9))))] (sh, (zput sg 14 (sAir (xN σ) (nI i9))), la)
            refine A_iload_n dX7_airs_66 rfl rfl ?_
            refine A_icmp_ne (tgt := 77) dX7_airs_67 rfl (fun h_6 => ?_) (fun h_6 => ?_)
            · skip
              refine A_iinc (v := nI (i9 + 1)) (lo2 := [some (.ref 0), some (.int (nI p1)), some (.int w), some (.int x3), some (.int x4), some (.ref 14), some (.int (nI (i9 + 1)))]) dX7_airs_77 rfl (nI_1 i9) (by decide) rfl ?_
              refine A_goto (tgt := 47) dX7_airs_80 rfl ?_
              refine ih (i9 + 1) _ _ _ (by omega) ?_ ?_
              · skip
                rw [e_x3, fa_cnt_no (Bool.eq_false_iff.mpr (show ¬ q_airP σ p1 i9 = true from fun q => h_6 ((oI_p (by omega) (zbest_l (cRng_air hK.rng (i := i9) (by omega)).1)).mpr (of_decide_eq_true q))))]
              · skip
                rw [zlast_n (show ¬ q_airP σ p1 i9 = true from fun q => h_6 ((oI_p (by omega) (zbest_l (cRng_air hK.rng (i := i9) (by omega)).1)).mpr (of_decide_eq_true q)))]; exact e_x4
            · skip
              refine A_iinc (v := (x3 + 1)) (lo2 := [some (.ref 0), some (.int (nI p1)), some (.int w), some (.int (x3 + 1)), some (.int x4), some (.ref 14), some (.int (nI i9))]) dX7_airs_70 rfl rfl (by decide) rfl ?_
              refine A_iload dX7_airs_73 rfl ?_
              refine A_istore (lo2 := [some (.ref 0), some (.int (nI p1)), some (.int w), some (.int (x3 + 1)), some (.int (nI i9)), some (.ref 14), some (.int (nI i9))]) dX7_airs_75 (by decide) rfl ?_
              refine A_iinc (v := nI (i9 + 1)) (lo2 := [some (.ref 0), some (.int (nI p1)), some (.int w), some (.int (x3 + 1)), some (.int (nI i9)), some (.ref 14), some (.int (nI (i9 + 1)))]) dX7_airs_77 rfl (nI_1 i9) (by decide) rfl ?_
              refine A_goto (tgt := 47) dX7_airs_80 rfl ?_
              refine ih (i9 + 1) _ _ _ (by omega) ?_ ?_
              · skip
                rw [e_x3, fa_cnt_yes (show q_airP σ p1 i9 = true from decide_eq_true ((oI_p (by omega) (zbest_l (cRng_air hK.rng (i := i9) (by omega)).1)).mp h_6))]; exact nI_1 _
              · skip
                rw [zlast_y (show q_airP σ p1 i9 = true from decide_eq_true ((oI_p (by omega) (zbest_l (cRng_air hK.rng (i := i9) (by omega)).1)).mp h_6))]; rfl
      exact loop (41) 0 _ _ _ (by omega) (rfl) (rfl)
    · skip
      have h_2' := b2i_0.mp h_2
      refine A_aload_n dX7_airs_19 rfl rfl ?_
      refine A_bipush (v := (-2)) dX7_airs_20 (by decide) ?_
      refine A_callV (n := 0) dX7_airs_22 kvX7_refuse mlX7_77 rfl (az_rc_obj clX7 (hX 0 _ rfl)) (c_X7_refuse l G (d + 30) sh sg la (-2) 0 hX (by decide) (by decide)) (by omega) (Nat.le_refl _) (Nat.le_refl _) rfl (Nat.le_of_ble_eq_true rfl) (fun r S1 hp => ?_)
      obtain ⟨rfl, rfl⟩ := hp
      show AW l G mX7_airs (d + 32) (az_F G Post) 0 0 25 [some (.ref 0), some (.int p), some (.int w), none, none, none, none] [.int (-2)] (sh, (az_w sg 43 0 (sg 43 0 + 1)), la)
      have hq : (q_airs σ p w) = ((-2), (rfs σ 0)) := by
        unfold q_airs
        try simp only [h_1', h_2', and_true, true_and, and_false, false_and, and_self, or_true, true_or, or_false, false_or, not_true_eq_false, not_false_eq_true, if_true, if_false, ite_true, ite_false, decide_true, decide_false, reduceIte]
        first | done | rfl | (rw [Int32.add_comm]; done)
      exact A_iret dX7_airs_25 rfl (hP _ _ (XQ_i hq (hK.ref (by decide))))
set_option maxHeartbeats 1000000 in
set_option maxRecDepth 100000 in
theorem x_warmest (l : Launch) (G : az_Gh) (d : Nat) (sh : List az_Sh) (sg : Nat → Nat → Int32) (la : Nat → Nat → Int64) (g : GGM) (σ : SGM)  (hX : az_at sh 0 lyX) (hK : KX g sg la σ) : AM l G (d + 32) mX7_warmest [.ref 0] (sh, sg, la) 0 0 (XQ sh g (.int (q_warmest σ)) σ) := by
  refine az_am knX7_warmest (Nat.le_of_ble_eq_true rfl) rfl (fun Post hP => ?_)
  show AW l G mX7_warmest (d + 32) (az_F G Post) 0 0 0 [some (.ref 0), none, none] [] (sh, sg, la)
  have hC := lyX_now hX
  have h8N := hK.ok.2
  refine A_aload_n dX7_warmest_0 rfl rfl ?_
  refine B_getR (r := 13) dX7_warmest_1 flX7_22 (hX 0 _ rfl) rfl ?_
  refine A_aload_n dX7_warmest_4 rfl rfl ?_
  refine B_getR (r := 1) dX7_warmest_5 flX7_10 (hX 0 _ rfl) rfl ?_
  have hF := lyX_fore hX
  have hT : az_at sh 14 (lyC 14) := lyF_C hF
  refine B_sg (zput_self sg 14).symm ?_
  refine A_callV (n := 0) dX7_warmest_8 kvX3_begin mlX7_189 rfl (az_rc_obj clX3 (hX 13 _ rfl)) (f_X3_begin l G (d + 28) sh sg la 13 1 (ct sg 14) (xN σ) hF hC (by omega) hK.now hK.tl.1 hK.ctl hK.rng) (by omega) (Nat.le_refl _) (Nat.le_refl _) rfl (Nat.le_of_ble_eq_true rfl) (fun r S1 hp => ?_)
  obtain ⟨rfl, rfl⟩ := hp
  show AW l G mX7_warmest (d + 32) (az_F G Post) 0 0 11 [some (.ref 0), none, none] [.ref 14] (sh, (zput sg 14 (xN σ)), la)
  refine A_astore_n (lo2 := [some (.ref 0), some (.ref 14), none]) dX7_warmest_11 rfl (by decide) rfl ?_
  refine A_bipush (v := 40) dX7_warmest_12 (by decide) ?_
  refine A_istore_n (lo2 := [some (.ref 0), some (.ref 14), some (.int 40)]) dX7_warmest_14 rfl (by decide) rfl ?_
  refine B_sg (congrArg (zput sg 14) (show xN σ = sAir (xN σ) (cAir (xN σ)) from rfl)) ?_
  have loop : ∀ (q9 : Nat) (a9 x9 : Int32), q9 ≤ 41 → x9 = nI q9 - 1 → (∀ k, q9 ≤ k → k < 41 → q_soA σ k = false) → AW l G mX7_warmest (d + 32) (az_F G Post) 0 0 15 [some (.ref 0), some (.ref 14), some (.int x9)] [] (sh, (zput sg 14 (sAir (xN σ) a9)), la) := by
    intro q9
    induction q9 with
    | zero =>
      intro a9 x9 hq9 e_x9 hno
      subst x9
      refine A_iload_n dX7_warmest_15 rfl rfl ?_
      refine A_if_lt (tgt := 39) dX7_warmest_16 rfl (fun h_1 => ?_) (fun h_1 => ?_)
      · skip
        refine A_iconst (v := (-1)) dX7_warmest_39 (by decide) ?_
        have hq : (q_warmest σ) = (-1) := by
          unfold q_warmest
          rw [zlast_none (fun k hk => hno k (by omega) hk)]
          first | done | rfl
        exact A_iret dX7_warmest_40 rfl (hP _ _ (XQ_0 hq (hK.put14 (cTl_air hK.ctl _))))
      · skip
        exact absurd (show nI 0 - 1 < 0 by decide) h_1
    | succ q9 ih =>
      intro a9 x9 hq9 e_x9 hno
      rw [nI_pred] at e_x9
      subst x9
      refine A_iload_n dX7_warmest_15 rfl rfl ?_
      refine A_if_lt (tgt := 39) dX7_warmest_16 rfl (fun h_2 => ?_) (fun h_2 => ?_)
      · skip
        exact absurd h_2 (nI_pos (by omega))
      · skip
        refine A_aload_n dX7_warmest_19 rfl rfl ?_
        refine A_iload_n dX7_warmest_20 rfl rfl ?_
        refine B_putI dX7_warmest_21 fwX7_228 (hX 14 _ rfl) rfl ?_
        refine B_sg (show _ = (zput sg 14 (sAir (xN σ) (nI q9))) from zw_6 _ _ _ _) ?_
        refine A_aload_n dX7_warmest_24 rfl rfl ?_
        refine A_callV (n := 0) dX7_warmest_25 kvX2_standsSo mlX7_216 rfl (az_rc_obj clX2 (hX 14 _ rfl)) (z_X2_standsSo l G (d + 28) sh sg la 14 (sAir (xN σ) (nI q9)) hT (cRng_air hK.rng (i := q9) (by omega))) (by omega) (Nat.le_refl _) (Nat.le_refl _) rfl (Nat.le_of_ble_eq_true rfl) (fun r S1 hp => ?_)
        obtain ⟨rfl, rfl⟩ := hp
        show AW l G mX7_warmest (d + 32) (az_F G Post) 0 0 28 [some (.ref 0), some (.ref 14), some (.int (nI q9))] [.int (b2i (zso (sAir (xN σ) (nI q9)) = true))] (sh, (zput sg 14 (sAir (xN σ) (nI q9))), la)
        refine A_if_eq (tgt := 33) dX7_warmest_28 rfl (fun h_3 => ?_) (fun h_3 => ?_)
        · skip
          have h_3' := b2i_0.mp h_3
          refine A_iinc (v := (nI q9 + (-1))) (lo2 := [some (.ref 0), some (.ref 14), some (.int (nI q9 + (-1)))]) dX7_warmest_33 rfl rfl (by decide) rfl ?_
          refine A_goto (tgt := 15) dX7_warmest_36 rfl ?_
          refine ih _ _ (by omega) (show nI q9 + (-1) = nI q9 - 1 by rw [Int32.sub_eq_add_neg]) (fun k h1 h2 => ?_)
          rcases Nat.lt_or_ge q9 k with h3 | h3
          · exact hno k h3 h2
          · rw [show k = q9 by omega]; exact Bool.eq_false_iff.mpr h_3'
        · skip
          have h_3' := b2i_n.mp h_3
          refine A_iload_n dX7_warmest_31 rfl rfl ?_
          have hq : (q_warmest σ) = nI q9 := by
            unfold q_warmest
            rw [zlast_some (i := q9) h_3' (by omega) (fun k h1 h2 => hno k h1 h2)]
            first | done | rfl
          exact A_iret dX7_warmest_32 rfl (hP _ _ (XQ_0 hq (hK.put14 (cTl_air hK.ctl _))))
  exact loop 41 _ _ (Nat.le_refl _) (by decide) (fun k h1 h2 => absurd h2 (by omega))
set_option maxHeartbeats 1000000 in
set_option maxRecDepth 100000 in
theorem x_bites (l : Launch) (G : az_Gh) (d : Nat) (sh : List az_Sh) (sg : Nat → Nat → Int32) (la : Nat → Nat → Int64) (g : GGM) (σ : SGM) (p : Int32) (hX : az_at sh 0 lyX) (hK : KX g sg la σ) : AM l G (d + 32) mX7_bites [.ref 0, .int p] (sh, sg, la) 0 0 (XQ sh g (.int (q_bites σ p).1) (q_bites σ p).2) := by
  refine az_am knX7_bites (Nat.le_of_ble_eq_true rfl) rfl (fun Post hP => ?_)
  show AW l G mX7_bites (d + 32) (az_F G Post) 0 0 0 [some (.ref 0), some (.int p), none, none] [] (sh, sg, la)
  have hC := lyX_now hX
  have h8N := hK.ok.2
  refine A_aload_n dX7_bites_0 rfl rfl ?_
  refine B_getR (r := 1) dX7_bites_1 flX7_10 (hX 0 _ rfl) rfl ?_
  refine A_iload_n dX7_bites_4 rfl rfl ?_
  refine A_callV (n := 0) dX7_bites_5 kvX2_hasOne mlX7_127 rfl (az_rc_obj clX2 (hX 1 _ rfl)) (kx_hasOne l G (d + 31) sh sg la g σ p hX hK) (by omega) (Nat.le_refl _) (Nat.le_refl _) rfl (Nat.le_of_ble_eq_true rfl) (fun r S1 hp => ?_)
  obtain ⟨rfl, rfl⟩ := hp
  show AW l G mX7_bites (d + 32) (az_F G Post) 0 0 8 [some (.ref 0), some (.int p), none, none] [.int (b2i (0 ≤ p ∧ p < cPp (xN σ)))] (sh, sg, la)
  refine A_if_ne (tgt := 18) dX7_bites_8 rfl (fun h_1 => ?_) (fun h_1 => ?_)
  · skip
    have h_1' := b2i_n.mp h_1
    obtain ⟨p1, hp1, rfl⟩ := nI_exp hK.ok h_1'
    have hc_p1 : (nI p1).toNatClampNeg = p1 := nI_clamp (by omega)
    refine A_aload_n dX7_bites_18 rfl rfl ?_
    refine B_getR (r := 13) dX7_bites_19 flX7_22 (hX 0 _ rfl) rfl ?_
    refine A_aload_n dX7_bites_22 rfl rfl ?_
    refine B_getR (r := 1) dX7_bites_23 flX7_10 (hX 0 _ rfl) rfl ?_
    have hF := lyX_fore hX
    have hT : az_at sh 14 (lyC 14) := lyF_C hF
    refine B_sg (zput_self sg 14).symm ?_
    refine A_callV (n := 0) dX7_bites_26 kvX3_begin mlX7_189 rfl (az_rc_obj clX3 (hX 13 _ rfl)) (f_X3_begin l G (d + 28) sh sg la 13 1 (ct sg 14) (xN σ) hF hC (by omega) hK.now hK.tl.1 hK.ctl hK.rng) (by omega) (Nat.le_refl _) (Nat.le_refl _) rfl (Nat.le_of_ble_eq_true rfl) (fun r S1 hp => ?_)
    obtain ⟨rfl, rfl⟩ := hp
    show AW l G mX7_bites (d + 32) (az_F G Post) 0 0 29 [some (.ref 0), some (.int (nI p1)), none, none] [.ref 14] (sh, (zput sg 14 (xN σ)), la)
    refine A_astore_n (lo2 := [some (.ref 0), some (.int (nI p1)), some (.ref 14), none]) dX7_bites_29 rfl (by decide) rfl ?_
    refine A_bipush (v := 40) dX7_bites_30 (by decide) ?_
    refine A_istore_n (lo2 := [some (.ref 0), some (.int (nI p1)), some (.ref 14), some (.int 40)]) dX7_bites_32 rfl (by decide) rfl ?_
    refine B_sg (congrArg (zput sg 14) (show xN σ = sAir (xN σ) (cAir (xN σ)) from rfl)) ?_
    have loop : ∀ (q9 : Nat) (a9 x9 : Int32), q9 ≤ 41 → x9 = nI q9 - 1 → (∀ k, q9 ≤ k → k < 41 → q_biP σ p1 k = false) → AW l G mX7_bites (d + 32) (az_F G Post) 0 0 33 [some (.ref 0), some (.int (nI p1)), some (.ref 14), some (.int x9)] [] (sh, (zput sg 14 (sAir (xN σ) a9)), la) := by
      intro q9
      induction q9 with
      | zero =>
        intro a9 x9 hq9 e_x9 hno
        subst x9
        refine A_iload_n dX7_bites_33 rfl rfl ?_
        refine A_if_lt (tgt := 58) dX7_bites_34 rfl (fun h_2 => ?_) (fun h_2 => ?_)
        · skip
          refine A_iconst (v := (-1)) dX7_bites_58 (by decide) ?_
          have hq : (q_bites σ (nI p1)) = ((-1), σ) := by
            unfold q_bites
            rw [if_pos h_1', hc_p1]
            rw [zlast_none (fun k hk => hno k (by omega) hk)]
            first | done | rfl
          exact A_iret dX7_bites_59 rfl (hP _ _ (XQ_i hq (hK.put14 (cTl_air hK.ctl _))))
        · skip
          exact absurd (show nI 0 - 1 < 0 by decide) h_2
      | succ q9 ih =>
        intro a9 x9 hq9 e_x9 hno
        rw [nI_pred] at e_x9
        subst x9
        refine A_iload_n dX7_bites_33 rfl rfl ?_
        refine A_if_lt (tgt := 58) dX7_bites_34 rfl (fun h_3 => ?_) (fun h_3 => ?_)
        · skip
          exact absurd h_3 (nI_pos (by omega))
        · skip
          refine A_aload_n dX7_bites_37 rfl rfl ?_
          refine A_iload_n dX7_bites_38 rfl rfl ?_
          refine B_putI dX7_bites_39 fwX7_228 (hX 14 _ rfl) rfl ?_
          refine B_sg (show _ = (zput sg 14 (sAir (xN σ) (nI q9))) from zw_6 _ _ _ _) ?_
          refine A_aload_n dX7_bites_42 rfl rfl ?_
          refine A_iload_n dX7_bites_43 rfl rfl ?_
          refine A_callV (n := 0) dX7_bites_44 kvX2_isHeard mlX7_207 rfl (az_rc_obj clX2 (hX 14 _ rfl)) (z_X2_isHeard l G (d + 29) sh sg la 14 (sAir (xN σ) (nI q9)) p1 hT ((cRng_air hK.rng (i := q9) (by omega))).1 hp1) (by omega) (Nat.le_refl _) (Nat.le_refl _) rfl (Nat.le_of_ble_eq_true rfl) (fun r S1 hp => ?_)
          obtain ⟨rfl, rfl⟩ := hp
          show AW l G mX7_bites (d + 32) (az_F G Post) 0 0 47 [some (.ref 0), some (.int (nI p1)), some (.ref 14), some (.int (nI q9))] [.int (b2i (zsp (sAir (xN σ) (nI q9)) p1 = true))] (sh, (zput sg 14 (sAir (xN σ) (nI q9))), la)
          refine A_if_eq (tgt := 52) dX7_bites_47 rfl (fun h_4 => ?_) (fun h_4 => ?_)
          · skip
            have h_4' := b2i_0.mp h_4
            refine A_iinc (v := (nI q9 + (-1))) (lo2 := [some (.ref 0), some (.int (nI p1)), some (.ref 14), some (.int (nI q9 + (-1)))]) dX7_bites_52 rfl rfl (by decide) rfl ?_
            refine A_goto (tgt := 33) dX7_bites_55 rfl ?_
            refine ih _ _ (by omega) (show nI q9 + (-1) = nI q9 - 1 by rw [Int32.sub_eq_add_neg]) (fun k h1 h2 => ?_)
            rcases Nat.lt_or_ge q9 k with h3 | h3
            · exact hno k h3 h2
            · rw [show k = q9 by omega]; exact Bool.eq_false_iff.mpr h_4'
          · skip
            have h_4' := b2i_n.mp h_4
            refine A_iload_n dX7_bites_50 rfl rfl ?_
            have hq : (q_bites σ (nI p1)) = (nI q9, σ) := by
              unfold q_bites
              rw [if_pos h_1', hc_p1]
              rw [zlast_some (i := q9) h_4' (by omega) (fun k h1 h2 => hno k h1 h2)]
              first | done | rfl
            exact A_iret dX7_bites_51 rfl (hP _ _ (XQ_i hq (hK.put14 (cTl_air hK.ctl _))))
    exact loop 41 _ _ (Nat.le_refl _) (by decide) (fun k h1 h2 => absurd h2 (by omega))
  · skip
    have h_1' := b2i_0.mp h_1
    refine A_aload_n dX7_bites_11 rfl rfl ?_
    refine A_bipush (v := (-2)) dX7_bites_12 (by decide) ?_
    refine A_callV (n := 0) dX7_bites_14 kvX7_refuse mlX7_77 rfl (az_rc_obj clX7 (hX 0 _ rfl)) (c_X7_refuse l G (d + 30) sh sg la (-2) 0 hX (by decide) (by decide)) (by omega) (Nat.le_refl _) (Nat.le_refl _) rfl (Nat.le_of_ble_eq_true rfl) (fun r S1 hp => ?_)
    obtain ⟨rfl, rfl⟩ := hp
    show AW l G mX7_bites (d + 32) (az_F G Post) 0 0 17 [some (.ref 0), some (.int p), none, none] [.int (-2)] (sh, (az_w sg 43 0 (sg 43 0 + 1)), la)
    have hq : (q_bites σ p) = ((-2), (rfs σ 0)) := by
      unfold q_bites
      try simp only [h_1', and_true, true_and, and_false, false_and, and_self, or_true, true_or, or_false, false_or, not_true_eq_false, not_false_eq_true, if_true, if_false, ite_true, ite_false, decide_true, decide_false, reduceIte]
      first | done | rfl | (rw [Int32.add_comm]; done)
    exact A_iret dX7_bites_17 rfl (hP _ _ (XQ_i hq (hK.ref (by decide))))
set_option maxHeartbeats 1000000 in
set_option maxRecDepth 100000 in
theorem x_brandyFor (l : Launch) (G : az_Gh) (d : Nat) (sh : List az_Sh) (sg : Nat → Nat → Int32) (la : Nat → Nat → Int64) (g : GGM) (σ : SGM) (p : Int32) (hX : az_at sh 0 lyX) (hK : KX g sg la σ) : AM l G (d + 32) mX7_brandyFor [.ref 0, .int p] (sh, sg, la) 0 0 (XQ sh g (.int (q_brandyFor σ p).1) (q_brandyFor σ p).2) := by
  refine az_am knX7_brandyFor (Nat.le_of_ble_eq_true rfl) rfl (fun Post hP => ?_)
  show AW l G mX7_brandyFor (d + 32) (az_F G Post) 0 0 0 [some (.ref 0), some (.int p), none, none] [] (sh, sg, la)
  have hC := lyX_now hX
  have h8N := hK.ok.2
  refine A_aload_n dX7_brandyFor_0 rfl rfl ?_
  refine B_getR (r := 1) dX7_brandyFor_1 flX7_10 (hX 0 _ rfl) rfl ?_
  refine A_iload_n dX7_brandyFor_4 rfl rfl ?_
  refine A_callV (n := 0) dX7_brandyFor_5 kvX2_hasOne mlX7_127 rfl (az_rc_obj clX2 (hX 1 _ rfl)) (kx_hasOne l G (d + 31) sh sg la g σ p hX hK) (by omega) (Nat.le_refl _) (Nat.le_refl _) rfl (Nat.le_of_ble_eq_true rfl) (fun r S1 hp => ?_)
  obtain ⟨rfl, rfl⟩ := hp
  show AW l G mX7_brandyFor (d + 32) (az_F G Post) 0 0 8 [some (.ref 0), some (.int p), none, none] [.int (b2i (0 ≤ p ∧ p < cPp (xN σ)))] (sh, sg, la)
  refine A_if_ne (tgt := 18) dX7_brandyFor_8 rfl (fun h_1 => ?_) (fun h_1 => ?_)
  · skip
    have h_1' := b2i_n.mp h_1
    obtain ⟨p1, hp1, rfl⟩ := nI_exp hK.ok h_1'
    have hc_p1 : (nI p1).toNatClampNeg = p1 := nI_clamp (by omega)
    refine A_aload_n dX7_brandyFor_18 rfl rfl ?_
    refine B_getR (r := 13) dX7_brandyFor_19 flX7_22 (hX 0 _ rfl) rfl ?_
    refine A_aload_n dX7_brandyFor_22 rfl rfl ?_
    refine B_getR (r := 1) dX7_brandyFor_23 flX7_10 (hX 0 _ rfl) rfl ?_
    have hF := lyX_fore hX
    have hT : az_at sh 14 (lyC 14) := lyF_C hF
    refine B_sg (zput_self sg 14).symm ?_
    refine A_callV (n := 0) dX7_brandyFor_26 kvX3_begin mlX7_189 rfl (az_rc_obj clX3 (hX 13 _ rfl)) (f_X3_begin l G (d + 28) sh sg la 13 1 (ct sg 14) (xN σ) hF hC (by omega) hK.now hK.tl.1 hK.ctl hK.rng) (by omega) (Nat.le_refl _) (Nat.le_refl _) rfl (Nat.le_of_ble_eq_true rfl) (fun r S1 hp => ?_)
    obtain ⟨rfl, rfl⟩ := hp
    show AW l G mX7_brandyFor (d + 32) (az_F G Post) 0 0 29 [some (.ref 0), some (.int (nI p1)), none, none] [.ref 14] (sh, (zput sg 14 (xN σ)), la)
    refine A_astore_n (lo2 := [some (.ref 0), some (.int (nI p1)), some (.ref 14), none]) dX7_brandyFor_29 rfl (by decide) rfl ?_
    refine A_iconst (v := 0) dX7_brandyFor_30 (by decide) ?_
    refine A_istore_n (lo2 := [some (.ref 0), some (.int (nI p1)), some (.ref 14), some (.int 0)]) dX7_brandyFor_31 rfl (by decide) rfl ?_
    refine B_sg (congrArg (zput sg 14) (show xN σ = sBr (xN σ) (va_up (cBr (xN σ)) p1 (cBr (xN σ) p1)) by rw [az_up_id]; rfl)) ?_
    have loop : ∀ (q_i9 i9 : Nat) (v9 : Int32), i9 + q_i9 = 10 → (∀ k, k < i9 → q_brP σ p1 k = false) → AW l G mX7_brandyFor (d + 32) (az_F G Post) 0 0 32 [some (.ref 0), some (.int (nI p1)), some (.ref 14), some (.int (nI i9))] [] (sh, (zput sg 14 (sBr (xN σ) (va_up (cBr (xN σ)) p1 v9))), la) := by
      intro q_i9
      induction q_i9 with
      | zero =>
        intro i9 v9 hi_i9 hno 
        have hN_i9 : i9 = 10 := by omega
        subst i9
        refine A_iload_n dX7_brandyFor_32 rfl rfl ?_
        refine A_bipush (v := 9) dX7_brandyFor_33 (by decide) ?_
        refine A_icmp_gt (tgt := 60) dX7_brandyFor_35 rfl (fun h_2 => ?_) (fun h_2 => ?_)
        · skip
          refine A_iconst (v := (-1)) dX7_brandyFor_60 (by decide) ?_
          have hq : (q_brandyFor σ (nI p1)) = ((-1), σ) := by
            unfold q_brandyFor
            rw [if_pos h_1', hc_p1, zfind_none hno]
            first | done | rfl
          exact A_iret dX7_brandyFor_61 rfl (hP _ _ (XQ_i hq (hK.put14 (cTl_br hK.ctl (by omega) _))))
        · skip
          exact absurd (by decide) h_2
      | succ q_i9 ih =>
        intro i9 v9 hi_i9 hno 
        refine A_iload_n dX7_brandyFor_32 rfl rfl ?_
        refine A_bipush (v := 9) dX7_brandyFor_33 (by decide) ?_
        refine A_icmp_gt (tgt := 60) dX7_brandyFor_35 rfl (fun h_3 => ?_) (fun h_3 => ?_)
        · skip
          exact absurd h_3 (nI_nlt (b := i9) (a := 9) (by omega) (by decide))
        · skip
          refine A_aload_n dX7_brandyFor_38 rfl rfl ?_
          refine B_getR (r := 18) dX7_brandyFor_39 flX7_162 (hX 14 _ rfl) rfl ?_
          refine A_iload_n dX7_brandyFor_42 rfl rfl ?_
          refine A_iload_n dX7_brandyFor_43 rfl rfl ?_
          refine B_iast (i := p1) dX7_brandyFor_44 (hX 18 _ rfl) (by decide) (rfl) (by omega) ?_
          refine B_sg (show _ = (zput sg 14 (sBr (xN σ) (va_up (va_up (cBr (xN σ)) p1 v9) p1 (nI i9)))) from zx_4 _ _ _ _ _) ?_
          refine B_sg (congrArg (fun z => zput sg 14 (sBr (xN σ) z)) (az_up_up (cBr (xN σ)) p1 v9 (nI i9))) ?_
          refine A_aload_n dX7_brandyFor_45 rfl rfl ?_
          refine A_callV (n := 0) dX7_brandyFor_46 kvX2_standsSo mlX7_216 rfl (az_rc_obj clX2 (hX 14 _ rfl)) (z_X2_standsSo l G (d + 28) sh sg la 14 (sBr (xN σ) (va_up (cBr (xN σ)) p1 (nI i9))) hT (cRng_br hK.rng (iR_of (m := 9) (k := i9) (by omega) (by decide)))) (by omega) (Nat.le_refl _) (Nat.le_refl _) rfl (Nat.le_of_ble_eq_true rfl) (fun r S1 hp => ?_)
          obtain ⟨rfl, rfl⟩ := hp
          show AW l G mX7_brandyFor (d + 32) (az_F G Post) 0 0 49 [some (.ref 0), some (.int (nI p1)), some (.ref 14), some (.int (nI i9))] [.int (b2i (zso (sBr (xN σ) (va_up (cBr (xN σ)) p1 (nI i9))) = true))] (sh, (zput sg 14 (sBr (xN σ) (va_up (cBr (xN σ)) p1 (nI i9)))), la)
          refine A_if_ne (tgt := 54) dX7_brandyFor_49 rfl (fun h_4 => ?_) (fun h_4 => ?_)
          · skip
            have h_4' := b2i_n.mp h_4
            refine A_iinc (v := nI (i9 + 1)) (lo2 := [some (.ref 0), some (.int (nI p1)), some (.ref 14), some (.int (nI (i9 + 1)))]) dX7_brandyFor_54 rfl (nI_1 i9) (by decide) rfl ?_
            refine A_goto (tgt := 32) dX7_brandyFor_57 rfl ?_
            refine ih (i9 + 1) _ (by omega) (lt_s hno (by unfold q_brP; rw [h_4']; rfl))
          · skip
            have h_4' := b2i_0.mp h_4
            refine A_iload_n dX7_brandyFor_52 rfl rfl ?_
            have hq : (q_brandyFor σ (nI p1)) = (nI i9, σ) := by
              unfold q_brandyFor
              rw [if_pos h_1', hc_p1, zfind_some (i := i9) (by omega) (by unfold q_brP; rw [Bool.eq_false_iff.mpr h_4']; rfl) hno]
              first | done | rfl
            exact A_iret dX7_brandyFor_53 rfl (hP _ _ (XQ_i hq (hK.put14 (cTl_br hK.ctl (by omega) _))))
    exact loop (10) 0 _ (by omega) lt_0
  · skip
    have h_1' := b2i_0.mp h_1
    refine A_aload_n dX7_brandyFor_11 rfl rfl ?_
    refine A_bipush (v := (-2)) dX7_brandyFor_12 (by decide) ?_
    refine A_callV (n := 0) dX7_brandyFor_14 kvX7_refuse mlX7_77 rfl (az_rc_obj clX7 (hX 0 _ rfl)) (c_X7_refuse l G (d + 30) sh sg la (-2) 0 hX (by decide) (by decide)) (by omega) (Nat.le_refl _) (Nat.le_refl _) rfl (Nat.le_of_ble_eq_true rfl) (fun r S1 hp => ?_)
    obtain ⟨rfl, rfl⟩ := hp
    show AW l G mX7_brandyFor (d + 32) (az_F G Post) 0 0 17 [some (.ref 0), some (.int p), none, none] [.int (-2)] (sh, (az_w sg 43 0 (sg 43 0 + 1)), la)
    have hq : (q_brandyFor σ p) = ((-2), (rfs σ 0)) := by
      unfold q_brandyFor
      try simp only [h_1', and_true, true_and, and_false, false_and, and_self, or_true, true_or, or_false, false_or, not_true_eq_false, not_false_eq_true, if_true, if_false, ite_true, ite_false, decide_true, decide_false, reduceIte]
      first | done | rfl | (rw [Int32.add_comm]; done)
    exact A_iret dX7_brandyFor_17 rfl (hP _ _ (XQ_i hq (hK.ref (by decide))))
set_option maxHeartbeats 1000000 in
set_option maxRecDepth 100000 in
theorem x_fallFor (l : Launch) (G : az_Gh) (d : Nat) (sh : List az_Sh) (sg : Nat → Nat → Int32) (la : Nat → Nat → Int64) (g : GGM) (σ : SGM) (t : Int32) (hX : az_at sh 0 lyX) (hK : KX g sg la σ) : AM l G (d + 32) mX7_fallFor [.ref 0, .int t] (sh, sg, la) 0 0 (XQ sh g (.int (q_fallFor σ t).1) (q_fallFor σ t).2) := by
  refine az_am knX7_fallFor (Nat.le_of_ble_eq_true rfl) rfl (fun Post hP => ?_)
  show AW l G mX7_fallFor (d + 32) (az_F G Post) 0 0 0 [some (.ref 0), some (.int t), none, none] [] (sh, sg, la)
  have hC := lyX_now hX
  have h8N := hK.ok.2
  refine A_iload_n dX7_fallFor_0 rfl rfl ?_
  refine A_bipush (v := 60) dX7_fallFor_1 (by decide) ?_
  refine A_callS (n := 0) dX7_fallFor_3 ksX7_isWithin mlX7_73 rfl (c_X7_isWithin l G (d + 31) sh sg la t 60) (by omega) (Nat.le_refl _) (Nat.le_refl _) rfl (Nat.le_of_ble_eq_true rfl) (fun r S1 hp => ?_)
  obtain ⟨rfl, rfl⟩ := hp
  show AW l G mX7_fallFor (d + 32) (az_F G Post) 0 0 6 [some (.ref 0), some (.int t), none, none] [.int (b2i (0 ≤ t ∧ t ≤ 60))] (sh, sg, la)
  refine A_if_ne (tgt := 16) dX7_fallFor_6 rfl (fun h_1 => ?_) (fun h_1 => ?_)
  · skip
    have h_1' := b2i_n.mp h_1
    obtain ⟨t1, ht1, rfl⟩ := nI_ex (m := 60) h_1'
    have hc_t1 : (nI t1).toNatClampNeg = t1 := nI_clamp (by omega)
    refine A_iconst (v := 0) dX7_fallFor_16 (by decide) ?_
    refine A_istore_n (lo2 := [some (.ref 0), some (.int (nI t1)), some (.int 0), none]) dX7_fallFor_17 rfl (by decide) rfl ?_
    have hF := lyX_fore hX
    have hT : az_at sh 14 (lyC 14) := lyF_C hF
    refine B_sg (zput_self sg 14).symm ?_
    have loop : ∀ (q_i9 i9 : Nat) (e9 : CT), i9 + q_i9 = 6 → cTl e9 → (∀ k, k < i9 → q_faP σ t1 k = false) → AW l G mX7_fallFor (d + 32) (az_F G Post) 0 0 18 [some (.ref 0), some (.int (nI t1)), some (.int (nI i9)), none] [] (sh, (zput sg 14 e9), la) := by
      intro q_i9
      induction q_i9 with
      | zero =>
        intro i9 e9 hi_i9 ht9 hno 
        have hN_i9 : i9 = 6 := by omega
        subst i9
        refine A_iload_n dX7_fallFor_18 rfl rfl ?_
        refine A_iconst (v := 5) dX7_fallFor_19 (by decide) ?_
        refine A_icmp_gt (tgt := 57) dX7_fallFor_20 rfl (fun h_2 => ?_) (fun h_2 => ?_)
        · skip
          refine A_iconst (v := (-1)) dX7_fallFor_57 (by decide) ?_
          have hq : (q_fallFor σ (nI t1)) = ((-1), σ) := by
            unfold q_fallFor
            rw [if_pos h_1', hc_t1, zfind_none hno]
            first | done | rfl
          exact A_iret dX7_fallFor_58 rfl (hP _ _ (XQ_i hq (hK.put14 ht9)))
        · skip
          exact absurd (by decide) h_2
      | succ q_i9 ih =>
        intro i9 e9 hi_i9 ht9 hno 
        refine A_iload_n dX7_fallFor_18 rfl rfl ?_
        refine A_iconst (v := 5) dX7_fallFor_19 (by decide) ?_
        refine A_icmp_gt (tgt := 57) dX7_fallFor_20 rfl (fun h_3 => ?_) (fun h_3 => ?_)
        · skip
          exact absurd h_3 (nI_nlt (b := i9) (a := 5) (by omega) (by decide))
        · skip
          refine A_aload_n dX7_fallFor_23 rfl rfl ?_
          refine B_getR (r := 13) dX7_fallFor_24 flX7_22 (hX 0 _ rfl) rfl ?_
          refine A_aload_n dX7_fallFor_27 rfl rfl ?_
          refine B_getR (r := 1) dX7_fallFor_28 flX7_10 (hX 0 _ rfl) rfl ?_
          refine A_callV (n := 0) dX7_fallFor_31 kvX3_begin mlX7_189 rfl (az_rc_obj clX3 (hX 13 _ rfl)) (f_X3_begin l G (d + 28) sh sg la 13 1 e9 (xN σ) hF hC (by omega) hK.now ht9 hK.ctl hK.rng) (by omega) (Nat.le_refl _) (Nat.le_refl _) rfl (Nat.le_of_ble_eq_true rfl) (fun r S1 hp => ?_)
          obtain ⟨rfl, rfl⟩ := hp
          show AW l G mX7_fallFor (d + 32) (az_F G Post) 0 0 34 [some (.ref 0), some (.int (nI t1)), some (.int (nI i9)), none] [.ref 14] (sh, (zput sg 14 (xN σ)), la)
          refine A_astore_n (lo2 := [some (.ref 0), some (.int (nI t1)), some (.int (nI i9)), some (.ref 14)]) dX7_fallFor_34 rfl (by decide) rfl ?_
          refine A_aload_n dX7_fallFor_35 rfl rfl ?_
          refine A_iload_n dX7_fallFor_36 rfl rfl ?_
          refine B_putI dX7_fallFor_37 fwX7_298 (hX 14 _ rfl) rfl ?_
          refine B_sg (show _ = (zput sg 14 (sFall (xN σ) (nI i9))) from zw_7 _ _ _ _) ?_
          refine A_aload_n dX7_fallFor_40 rfl rfl ?_
          refine A_iload_n dX7_fallFor_41 rfl rfl ?_
          refine A_callV (n := 0) dX7_fallFor_42 kvX2_firstSo mlX7_222 rfl (az_rc_obj clX2 (hX 14 _ rfl)) (z_X2_firstSo l G (d + 27) sh sg la 14 (sFall (xN σ) (nI i9)) t1 hT (show cRng (sFall (xN σ) (nI i9)) from ⟨hK.rng.1, hK.rng.2.1, iR_of (m := 5) (by omega) (by decide), hK.rng.2.2.2⟩) (by omega)) (by omega) (Nat.le_refl _) (Nat.le_refl _) rfl (Nat.le_of_ble_eq_true rfl) (fun r S1 hp => ?_)
          obtain ⟨rfl, rfl⟩ := hp
          show AW l G mX7_fallFor (d + 32) (az_F G Post) 0 0 45 [some (.ref 0), some (.int (nI t1)), some (.int (nI i9)), some (.ref 14)] [.int (zwhenI (sFall (xN σ) (nI i9)) t1)] (sh, (zput sg 14 (zdays (zwhen (sFall (xN σ) (nI i9)) t1) (sFall (xN σ) (nI i9)))), la)
          refine A_iconst (v := (-1)) dX7_fallFor_45 (by decide) ?_
          refine A_icmp_eq (tgt := 51) dX7_fallFor_46 rfl (fun h_4 => ?_) (fun h_4 => ?_)
          · skip
            refine A_iinc (v := nI (i9 + 1)) (lo2 := [some (.ref 0), some (.int (nI t1)), some (.int (nI (i9 + 1))), some (.ref 14)]) dX7_fallFor_51 rfl (nI_1 i9) (by decide) rfl ?_
            refine A_goto (tgt := 18) dX7_fallFor_54 rfl ?_
            refine A_forget (lo2 := [some (.ref 0), some (.int (nI t1)), some (.int (nI (i9 + 1))), none]) ⟨rfl, rfl, rfl, trivial⟩ ?_
            refine ih (i9 + 1) _ (by omega) (cTl_days (show cTl (sFall (xN σ) (nI i9)) from hK.ctl) hK.ok.2 _) (lt_s hno (by unfold q_faP; rw [(zno_I (by omega)).mp h_4]; rfl))
          · skip
            refine A_iload_n dX7_fallFor_49 rfl rfl ?_
            have hq : (q_fallFor σ (nI t1)) = (nI i9, σ) := by
              unfold q_fallFor
              rw [if_pos h_1', hc_t1, zfind_some (i := i9) (by omega) (by unfold q_faP; rw [Bool.eq_false_iff.mpr (fun q => h_4 ((zno_I (by omega)).mpr q))]; rfl) hno]
              first | done | rfl
            exact A_iret dX7_fallFor_50 rfl (hP _ _ (XQ_i hq (hK.put14 (cTl_days (show cTl (sFall (xN σ) (nI i9)) from hK.ctl) hK.ok.2 _))))
    exact loop (6) 0 _ (by omega) hK.tl.1 lt_0
  · skip
    have h_1' := b2i_0.mp h_1
    refine A_aload_n dX7_fallFor_9 rfl rfl ?_
    refine A_bipush (v := (-2)) dX7_fallFor_10 (by decide) ?_
    refine A_callV (n := 0) dX7_fallFor_12 kvX7_refuse mlX7_77 rfl (az_rc_obj clX7 (hX 0 _ rfl)) (c_X7_refuse l G (d + 30) sh sg la (-2) 0 hX (by decide) (by decide)) (by omega) (Nat.le_refl _) (Nat.le_refl _) rfl (Nat.le_of_ble_eq_true rfl) (fun r S1 hp => ?_)
    obtain ⟨rfl, rfl⟩ := hp
    show AW l G mX7_fallFor (d + 32) (az_F G Post) 0 0 15 [some (.ref 0), some (.int t), none, none] [.int (-2)] (sh, (az_w sg 43 0 (sg 43 0 + 1)), la)
    have hq : (q_fallFor σ t) = ((-2), (rfs σ 0)) := by
      unfold q_fallFor
      try simp only [h_1', and_true, true_and, and_false, false_and, and_self, or_true, true_or, or_false, false_or, not_true_eq_false, not_false_eq_true, if_true, if_false, ite_true, ite_false, decide_true, decide_false, reduceIte]
      first | done | rfl | (rw [Int32.add_comm]; done)
    exact A_iret dX7_fallFor_15 rfl (hP _ _ (XQ_i hq (hK.ref (by decide))))
set_option maxHeartbeats 1000000 in
set_option maxRecDepth 100000 in
theorem x_gap (l : Launch) (G : az_Gh) (d : Nat) (sh : List az_Sh) (sg : Nat → Nat → Int32) (la : Nat → Nat → Int64) (g : GGM) (σ : SGM) (p : Int32) (hX : az_at sh 0 lyX) (hK : KX g sg la σ) : AM l G (d + 32) mX7_gap [.ref 0, .int p] (sh, sg, la) 0 0 (XQ sh g (.int (q_gap σ p).1) (q_gap σ p).2) := by
  refine az_am knX7_gap (Nat.le_of_ble_eq_true rfl) rfl (fun Post hP => ?_)
  show AW l G mX7_gap (d + 32) (az_F G Post) 0 0 0 [some (.ref 0), some (.int p), none, none] [] (sh, sg, la)
  have hC := lyX_now hX
  have h8N := hK.ok.2
  refine A_aload_n dX7_gap_0 rfl rfl ?_
  refine B_getR (r := 1) dX7_gap_1 flX7_10 (hX 0 _ rfl) rfl ?_
  refine A_iload_n dX7_gap_4 rfl rfl ?_
  refine A_callV (n := 0) dX7_gap_5 kvX2_hasOne mlX7_127 rfl (az_rc_obj clX2 (hX 1 _ rfl)) (kx_hasOne l G (d + 31) sh sg la g σ p hX hK) (by omega) (Nat.le_refl _) (Nat.le_refl _) rfl (Nat.le_of_ble_eq_true rfl) (fun r S1 hp => ?_)
  obtain ⟨rfl, rfl⟩ := hp
  show AW l G mX7_gap (d + 32) (az_F G Post) 0 0 8 [some (.ref 0), some (.int p), none, none] [.int (b2i (0 ≤ p ∧ p < cPp (xN σ)))] (sh, sg, la)
  refine A_if_ne (tgt := 18) dX7_gap_8 rfl (fun h_1 => ?_) (fun h_1 => ?_)
  · skip
    have h_1' := b2i_n.mp h_1
    obtain ⟨p1, hp1, rfl⟩ := nI_exp hK.ok h_1'
    have hc_p1 : (nI p1).toNatClampNeg = p1 := nI_clamp (by omega)
    refine A_aload_n dX7_gap_18 rfl rfl ?_
    refine B_getR (r := 13) dX7_gap_19 flX7_22 (hX 0 _ rfl) rfl ?_
    refine A_aload_n dX7_gap_22 rfl rfl ?_
    refine B_getR (r := 1) dX7_gap_23 flX7_10 (hX 0 _ rfl) rfl ?_
    have hF := lyX_fore hX
    have hT : az_at sh 14 (lyC 14) := lyF_C hF
    refine B_sg (zput_self sg 14).symm ?_
    refine A_callV (n := 0) dX7_gap_26 kvX3_begin mlX7_189 rfl (az_rc_obj clX3 (hX 13 _ rfl)) (f_X3_begin l G (d + 28) sh sg la 13 1 (ct sg 14) (xN σ) hF hC (by omega) hK.now hK.tl.1 hK.ctl hK.rng) (by omega) (Nat.le_refl _) (Nat.le_refl _) rfl (Nat.le_of_ble_eq_true rfl) (fun r S1 hp => ?_)
    obtain ⟨rfl, rfl⟩ := hp
    show AW l G mX7_gap (d + 32) (az_F G Post) 0 0 29 [some (.ref 0), some (.int (nI p1)), none, none] [.ref 14] (sh, (zput sg 14 (xN σ)), la)
    refine A_astore_n (lo2 := [some (.ref 0), some (.int (nI p1)), some (.ref 14), none]) dX7_gap_29 rfl (by decide) rfl ?_
    refine A_aload_n dX7_gap_30 rfl rfl ?_
    refine B_getR (r := 1) dX7_gap_31 flX7_10 (hX 0 _ rfl) rfl ?_
    refine B_getR (r := 6) dX7_gap_34 flX7_165 (hX 1 _ rfl) rfl ?_
    refine A_iload_n dX7_gap_37 rfl rfl ?_
    refine B_ialdV (i := p1) (cFe (xN σ) p1) dX7_gap_38 (hX 6 _ rfl) (by decide) (rfl) (by omega) ((hK.put14 hK.ctl).e5 _) ?_
    refine A_istore_n (lo2 := [some (.ref 0), some (.int (nI p1)), some (.ref 14), some (.int (cFe (xN σ) p1))]) dX7_gap_39 rfl (by decide) rfl ?_
    obtain ⟨f0, hf0, ef0⟩ := iR_nI (m := 40) (hK.rng.2.2.2 p1 hp1).2.2.1
    have hc_f0 : (cFe (xN σ) p1).toNatClampNeg = f0 := by rw [ef0]; exact nI_clamp (by omega)
    refine az_jn2 ef0 (P := fun z => AW l G mX7_gap (d + 32) (az_F G Post) 0 0 40 [some (.ref 0), some (.int (nI p1)), some (.ref 14), some (.int (z))] [] (sh, (zput sg 14 (xN σ)), la)) ?_
    refine B_sg (congrArg (zput sg 14) (show xN σ = zfe (xN σ) p1 (cFe (xN σ) p1) by unfold zfe; rw [az_up_id]; rfl)) ?_
    show AW l G mX7_gap (d + 32) (az_F G Post) 0 0 40 [some (.ref 0), some (.int (nI p1)), some (.ref 14), some (.int (nI f0))] [] (sh, (zput sg 14 (sFe (xN σ) (va_up (cFe (xN σ)) p1 (cFe (xN σ) p1)))), la)
    have loop : ∀ (q_i9 i9 : Nat) (v9 : Int32), i9 + q_i9 = 41 → f0 ≤ i9 → (∀ k, k < i9 - f0 → q_gaP σ p1 k = false) → AW l G mX7_gap (d + 32) (az_F G Post) 0 0 40 [some (.ref 0), some (.int (nI p1)), some (.ref 14), some (.int (nI i9))] [] (sh, (zput sg 14 (sFe (xN σ) (va_up (cFe (xN σ)) p1 v9))), la) := by
      intro q_i9
      induction q_i9 with
      | zero =>
        intro i9 v9 hi_i9 hfi hno 
        have hN_i9 : i9 = 41 := by omega
        subst i9
        refine A_iload_n dX7_gap_40 rfl rfl ?_
        refine A_bipush (v := 40) dX7_gap_41 (by decide) ?_
        refine A_icmp_gt (tgt := 79) dX7_gap_43 rfl (fun h_2 => ?_) (fun h_2 => ?_)
        · skip
          refine A_iconst (v := (-1)) dX7_gap_79 (by decide) ?_
          have hq : (q_gap σ (nI p1)) = ((-1), σ) := by
            unfold q_gap
            rw [if_pos h_1', hc_p1, hc_f0, zfind_none hno]
            first | done | rfl
          exact A_iret dX7_gap_80 rfl (hP _ _ (XQ_i hq (hK.put14 (cTl_fe hK.ctl (fun j hj => by rw [az_up_ne (by omega)]; exact (hK.ctl j hj).2.2.2.2)))))
        · skip
          exact absurd (by decide) h_2
      | succ q_i9 ih =>
        intro i9 v9 hi_i9 hfi hno 
        refine A_iload_n dX7_gap_40 rfl rfl ?_
        refine A_bipush (v := 40) dX7_gap_41 (by decide) ?_
        refine A_icmp_gt (tgt := 79) dX7_gap_43 rfl (fun h_3 => ?_) (fun h_3 => ?_)
        · skip
          exact absurd h_3 (nI_nlt (b := i9) (a := 40) (by omega) (by decide))
        · skip
          refine A_aload_n dX7_gap_46 rfl rfl ?_
          refine B_getR (r := 19) dX7_gap_47 flX7_165 (hX 14 _ rfl) rfl ?_
          refine A_iload_n dX7_gap_50 rfl rfl ?_
          refine A_iload_n dX7_gap_51 rfl rfl ?_
          refine B_iast (i := p1) dX7_gap_52 (hX 19 _ rfl) (by decide) (rfl) (by omega) ?_
          refine B_sg (show _ = (zput sg 14 (sFe (xN σ) (va_up (va_up (cFe (xN σ)) p1 v9) p1 (nI i9)))) from zx_5 _ _ _ _ _) ?_
          refine B_sg (congrArg (fun z => zput sg 14 (sFe (xN σ) z)) (az_up_up (cFe (xN σ)) p1 v9 (nI i9))) ?_
          have hRf : cRng (zfe (xN σ) p1 (nI i9)) := (cW_fe hK.cw (by omega) (iR_of (m := 40) (k := i9) (by omega) (by decide))).1
          have gfe : cFe (xN σ) p1 + nI (i9 - f0) = nI i9 := by rw [ef0, nI_add, show f0 + (i9 - f0) = i9 by omega]
          show AW l G mX7_gap (d + 32) (az_F G Post) 0 0 53 [some (.ref 0), some (.int (nI p1)), some (.ref 14), some (.int (nI i9))] [] (sh, (zput sg 14 (zfe (xN σ) p1 (nI i9))), la)
          refine A_aload_n dX7_gap_53 rfl rfl ?_
          refine A_callV (n := 0) dX7_gap_54 kvX2_coldestOne mlX7_210 rfl (az_rc_obj clX2 (hX 14 _ rfl)) (z_X2_coldestOne l G (d + 29) sh sg la 14 (zfe (xN σ) p1 (nI i9)) hT (hRf).1 (cRng_pos hRf)) (by omega) (Nat.le_refl _) (Nat.le_refl _) rfl (Nat.le_of_ble_eq_true rfl) (fun r S1 hp => ?_)
          obtain ⟨rfl, rfl⟩ := hp
          show AW l G mX7_gap (d + 32) (az_F G Post) 0 0 57 [some (.ref 0), some (.int (nI p1)), some (.ref 14), some (.int (nI i9))] [.int (oI (zbest (zfe (xN σ) p1 (nI i9))))] (sh, (zput sg 14 (zfe (xN σ) p1 (nI i9))), la)
          refine A_iload_n dX7_gap_57 rfl rfl ?_
          refine A_icmp_eq (tgt := 73) dX7_gap_58 rfl (fun h_4 => ?_) (fun h_4 => ?_)
          · skip
            show AW l G mX7_gap (d + 32) (az_F G Post) 0 0 73 [some (.ref 0), some (.int (nI p1)), some (.ref 14), some (.int (nI i9))] [] (sh, (zput sg 14 (sFe (xN σ) (va_up (cFe (xN σ)) p1 (nI i9)))), la)
            refine A_iinc (v := nI (i9 + 1)) (lo2 := [some (.ref 0), some (.int (nI p1)), some (.ref 14), some (.int (nI (i9 + 1)))]) dX7_gap_73 rfl (nI_1 i9) (by decide) rfl ?_
            refine A_goto (tgt := 40) dX7_gap_76 rfl ?_
            refine ih (i9 + 1) _ (by omega) (by omega) (by rw [show i9 + 1 - f0 = (i9 - f0) + 1 by omega]; exact lt_s hno (by unfold q_gaP; rw [gfe]; rw [decide_eq_true ((oI_p (by omega) (zbest_l hRf.1)).mp h_4)]; rfl))
          · skip
            refine A_iload_n dX7_gap_61 rfl rfl ?_
            refine A_aload_n dX7_gap_62 rfl rfl ?_
            refine B_getR (r := 1) dX7_gap_63 flX7_10 (hX 0 _ rfl) rfl ?_
            refine B_getR (r := 6) dX7_gap_66 flX7_165 (hX 1 _ rfl) rfl ?_
            refine A_iload_n dX7_gap_69 rfl rfl ?_
            refine B_ialdV (i := p1) (cFe (xN σ) p1) dX7_gap_70 (hX 6 _ rfl) (by decide) (rfl) (by omega) ((hK.put14 (cTl_fe hK.ctl (fun j hj => by rw [az_up_ne (by omega)]; exact (hK.ctl j hj).2.2.2.2))).e5 _) ?_
            refine A_isub dX7_gap_71 ?_
            have hq : (q_gap σ (nI p1)) = ((nI i9 - cFe (xN σ) p1), σ) := by
              unfold q_gap
              rw [if_pos h_1', hc_p1, hc_f0, zfind_some (i := i9 - f0) (by omega) (by unfold q_gaP; rw [gfe, decide_eq_false (fun q => h_4 ((oI_p (by omega) (zbest_l hRf.1)).mpr q))]; rfl) hno]
              show (nI (i9 - f0), σ) = _
              rw [ef0, nI_sub (by omega) (by omega)]
            exact A_iret dX7_gap_72 rfl (hP _ _ (XQ_i hq (hK.put14 (cTl_fe hK.ctl (fun j hj => by rw [az_up_ne (by omega)]; exact (hK.ctl j hj).2.2.2.2)))))
    exact loop ((41) - (f0)) f0 _ (by omega) (Nat.le_refl _) (by rw [Nat.sub_self]; exact lt_0)
  · skip
    have h_1' := b2i_0.mp h_1
    refine A_aload_n dX7_gap_11 rfl rfl ?_
    refine A_bipush (v := (-2)) dX7_gap_12 (by decide) ?_
    refine A_callV (n := 0) dX7_gap_14 kvX7_refuse mlX7_77 rfl (az_rc_obj clX7 (hX 0 _ rfl)) (c_X7_refuse l G (d + 30) sh sg la (-2) 0 hX (by decide) (by decide)) (by omega) (Nat.le_refl _) (Nat.le_refl _) rfl (Nat.le_of_ble_eq_true rfl) (fun r S1 hp => ?_)
    obtain ⟨rfl, rfl⟩ := hp
    show AW l G mX7_gap (d + 32) (az_F G Post) 0 0 17 [some (.ref 0), some (.int p), none, none] [.int (-2)] (sh, (az_w sg 43 0 (sg 43 0 + 1)), la)
    have hq : (q_gap σ p) = ((-2), (rfs σ 0)) := by
      unfold q_gap
      try simp only [h_1', and_true, true_and, and_false, false_and, and_self, or_true, true_or, or_false, false_or, not_true_eq_false, not_false_eq_true, if_true, if_false, ite_true, ite_false, decide_true, decide_false, reduceIte]
      first | done | rfl | (rw [Int32.add_comm]; done)
    exact A_iret dX7_gap_17 rfl (hP _ _ (XQ_i hq (hK.ref (by decide))))
