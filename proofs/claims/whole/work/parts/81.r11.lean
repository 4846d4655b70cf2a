theorem q_r1_l {σ : SGM} {s k : Nat} (hs : s < 8) (hk : 2 * k < fSz (xS σ s)) (hz : fSz (xS σ s) ≤ 40) : q_r1 σ (nI s) k = fEl (xS σ s) (2 * k) := by
  unfold q_r1 xf xat
  rw [nI_clamp (by omega), show 2 * nI k = nI (2 * k) from nI_mul 2 k, if_pos ⟨nI_pos' (by omega), nI_lt hk (by omega)⟩, nI_clamp (by omega)]
theorem q_r2_l {σ : SGM} {s k : Nat} (hs : s < 8) (hk : 2 * k + 1 < fSz (xS σ s)) (hz : fSz (xS σ s) ≤ 40) : q_r2 σ (nI s) k = fEl (xS σ s) (2 * k + 1) := by
  unfold q_r2 xf xat
  rw [nI_clamp (by omega), show 2 * nI k + 1 = nI (2 * k + 1) from (congrArg (· + 1) (nI_mul 2 k)).trans (nI_1 _), if_pos ⟨nI_pos' (by omega), nI_lt hk (by omega)⟩, nI_clamp (by omega)]
theorem xat_l {f : SHF} {k : Nat} (hk : k < fSz f) (hz : fSz f ≤ 40) : xat f (nI k) = fEl f k := by
  unfold xat
  rw [if_pos ⟨nI_pos' (by omega), nI_lt hk (by omega)⟩, nI_clamp (by omega)]
theorem i64_01 {x : Int64} : (0 ≤ x ∧ x ≤ 1) ↔ (x = 0 ∨ x = 1) := by
  rw [Int64.le_iff_toInt_le, Int64.le_iff_toInt_le, ← Int64.toInt_inj, ← Int64.toInt_inj, show (0 : Int64).toInt = 0 by decide, show (1 : Int64).toInt = 1 by decide]
  omega
theorem zallb_no {p : Nat → Bool} {i n : Nat} (h : i ≤ n) (hf : ¬ zallb p i = true) : ¬ zallb p n = true := fun q => hf (zallb_i.mpr (fun k hk => zallb_i.mp q k (by omega)))
theorem zallb_y {p : Nat → Bool} {i : Nat} (h : zallb p i = true) (hi : p i = true) : zallb p (i + 1) = true := by rw [zallb_s, h, hi]; rfl
theorem zallb_x {p : Nat → Bool} {i : Nat} (hi : p i = false) : ¬ zallb p (i + 1) = true := by rw [zallb_s, hi, Bool.and_false]; decide
set_option maxHeartbeats 1000000 in
set_option maxRecDepth 100000 in
theorem r_areAirs0 (l : Launch) (G : az_Gh) (d : Nat) (sh : List az_Sh) (sg : Nat → Nat → Int32) (la : Nat → Nat → Int64) (kp tr : Option Nat) (σ : SGM) (s n : Nat) (hM : az_at sh 60 (lyM 60 kp tr)) (hs8 : s < 8) (hla : la (65 + s) = fEl (xS σ s)) (hz : 2 * n ≤ fSz (xS σ s)) (hz4 : fSz (xS σ s) ≤ 40) : FM l G (d + 1) mX8_areAirs [.ref 60, .int (nI s), .int (nI n), .int 0] (sh, sg, la) (some (.int (b2i (zallb (q_airsB σ (nI s)) n = true)))) (sh, sg, la) := by
  refine az_fm knX8_areAirs (Nat.le_of_ble_eq_true rfl) rfl (fun Post hP => ?_)
  show AW l G mX8_areAirs (d + 1) (az_F G Post) 0 0 0 [some (.ref 60), some (.int (nI s)), some (.int (nI n)), some (.int 0), none] [] (sh, sg, la)
  refine A_iconst (v := 0) dX8_areAirs_0 (by decide) ?_
  refine A_istore (lo2 := [some (.ref 60), some (.int (nI s)), some (.int (nI n)), some (.int 0), some (.int 0)]) dX8_areAirs_1 (by decide) rfl ?_
  have loop : ∀ (q_i9 i9 : Nat), i9 + q_i9 = n → zallb (q_airsB σ (nI s)) i9 = true → AW l G mX8_areAirs (d + 1) (az_F G Post) 0 0 3 [some (.ref 60), some (.int (nI s)), some (.int (nI n)), some (.int 0), some (.int (nI i9))] [] (sh, sg, la) := by
    intro q_i9
    induction q_i9 with
    | zero =>
      intro i9  hi_i9 hall 
      have hN_i9 : i9 = n := by omega
      subst i9
      refine A_iload dX8_areAirs_3 rfl ?_
      refine A_iload_n dX8_areAirs_5 rfl rfl ?_
      refine A_icmp_ge (tgt := 63) dX8_areAirs_6 rfl (fun h_1 => ?_) (fun h_1 => ?_)
      · skip
        refine A_iconst (v := 1) dX8_areAirs_63 (by decide) ?_
        refine A_zret dX8_areAirs_64 rfl (rfl) (az_pi hP ?_ (rfl))
        exact b2i_t hall
      · skip
        exact absurd (Int32.le_refl _) h_1
    | succ q_i9 ih =>
      intro i9  hi_i9 hall 
      refine A_iload dX8_areAirs_3 rfl ?_
      refine A_iload_n dX8_areAirs_5 rfl rfl ?_
      refine A_icmp_ge (tgt := 63) dX8_areAirs_6 rfl (fun h_2 => ?_) (fun h_2 => ?_)
      · skip
        exact absurd h_2 (nI_ge (by omega) (by omega))
      · skip
        refine A_aload_n dX8_areAirs_9 rfl rfl ?_
        refine B_getR (r := 64) dX8_areAirs_10 flX8_21 (hM 0 _ rfl) rfl ?_
        refine A_iload_n dX8_areAirs_13 rfl rfl ?_
        have hL_s := lyM_row' hM (show s < 8 by omega)
        refine B_aald (i := s) (r := (65 + s)) dX8_areAirs_14 (hM 4 _ rfl) (by decide) rfl rfl (by decide) (rfl) (by omega) (zsm_r (show s < 8 by omega)) ?_
        refine A_iconst (v := 2) dX8_areAirs_15 (by decide) ?_
        refine A_iload dX8_areAirs_16 rfl ?_
        refine A_imul dX8_areAirs_18 ?_
        refine B_laldV (i := (2 * i9)) (q_r1 σ (nI s) i9) dX8_areAirs_19 (hL_s 0 _ rfl) (by decide) (nI_mul 2 i9) (by omega) ((congrFun hla _).trans (q_r1_l hs8 (by omega) (by omega)).symm) ?_
        refine A_lconst (v := 0) dX8_areAirs_20 (by decide) ?_
        refine A_ldc2 (v := 40) dX8_areAirs_21 lcX8_99 ?_
        refine A_callS (n := 0) dX8_areAirs_24 ksX8_in mlX8_91 rfl (c_X8_in l G d sh sg la (q_r1 σ (nI s) i9) 0 40) (by omega) (Nat.le_refl _) (Nat.le_refl _) rfl (Nat.le_of_ble_eq_true rfl) (fun r S1 hp => ?_)
        obtain ⟨rfl, rfl⟩ := hp
        show AW l G mX8_areAirs (d + 1) (az_F G Post) 0 0 27 [some (.ref 60), some (.int (nI s)), some (.int (nI n)), some (.int 0), some (.int (nI i9))] [.int (b2i (0 ≤ (q_r1 σ (nI s) i9) ∧ (q_r1 σ (nI s) i9) ≤ 40))] (sh, sg, la)
        refine A_if_eq (tgt := 55) dX8_areAirs_27 rfl (fun h_3 => ?_) (fun h_3 => ?_)
        · skip
          have h_3' := b2i_0.mp h_3
          refine A_iconst (v := 0) dX8_areAirs_55 (by decide) ?_
          refine A_zret dX8_areAirs_56 rfl (rfl) (az_pi hP ?_ (rfl))
          have hf : q_airsB σ (nI s) i9 = false := by
            unfold q_airsB
            by_cases z : 0 ≤ q_r1 σ (nI s) i9
            · rw [decide_eq_false (fun y => h_3' ⟨z, y⟩), Bool.and_false]
            · rw [decide_eq_false z, Bool.false_and]
          exact b2i_f (zallb_no (i := i9 + 1) (by omega) (zallb_x hf))
        · skip
          have h_3' := b2i_n.mp h_3
          refine A_iload_n dX8_areAirs_30 rfl rfl ?_
          refine A_if_eq (tgt := 57) dX8_areAirs_31 rfl (fun h_4 => ?_) (fun h_4 => ?_)
          · skip
            refine A_iinc (v := nI (i9 + 1)) (lo2 := [some (.ref 60), some (.int (nI s)), some (.int (nI n)), some (.int 0), some (.int (nI (i9 + 1)))]) dX8_areAirs_57 rfl (nI_1 i9) (by decide) rfl ?_
            refine A_goto (tgt := 3) dX8_areAirs_60 rfl ?_
            refine ih (i9 + 1) (by omega) (zallb_y hall (show q_airsB σ (nI s) i9 = true from by unfold q_airsB; rw [decide_eq_true h_3'.1, decide_eq_true h_3'.2]; rfl))
          · skip
            exact absurd (by decide) h_4
  exact loop (n) 0 (by omega) rfl
set_option maxHeartbeats 1000000 in
set_option maxRecDepth 100000 in
theorem r_areAirs1 (l : Launch) (G : az_Gh) (d : Nat) (sh : List az_Sh) (sg : Nat → Nat → Int32) (la : Nat → Nat → Int64) (kp tr : Option Nat) (σ : SGM) (s n : Nat) (hM : az_at sh 60 (lyM 60 kp tr)) (hs8 : s < 8) (hla : la (65 + s) = fEl (xS σ s)) (hz : 2 * n ≤ fSz (xS σ s)) (hz4 : fSz (xS σ s) ≤ 40) : FM l G (d + 1) mX8_areAirs [.ref 60, .int (nI s), .int (nI n), .int 1] (sh, sg, la) (some (.int (b2i (zallb (fun k => q_airsB σ (nI s) k && q_wheB σ (nI s) k) n = true)))) (sh, sg, la) := by
  refine az_fm knX8_areAirs (Nat.le_of_ble_eq_true rfl) rfl (fun Post hP => ?_)
  show AW l G mX8_areAirs (d + 1) (az_F G Post) 0 0 0 [some (.ref 60), some (.int (nI s)), some (.int (nI n)), some (.int 1), none] [] (sh, sg, la)
  refine A_iconst (v := 0) dX8_areAirs_0 (by decide) ?_
  refine A_istore (lo2 := [some (.ref 60), some (.int (nI s)), some (.int (nI n)), some (.int 1), some (.int 0)]) dX8_areAirs_1 (by decide) rfl ?_
  have loop : ∀ (q_i9 i9 : Nat), i9 + q_i9 = n → zallb (fun k => q_airsB σ (nI s) k && q_wheB σ (nI s) k) i9 = true → AW l G mX8_areAirs (d + 1) (az_F G Post) 0 0 3 [some (.ref 60), some (.int (nI s)), some (.int (nI n)), some (.int 1), some (.int (nI i9))] [] (sh, sg, la) := by
    intro q_i9
    induction q_i9 with
    | zero =>
      intro i9  hi_i9 hall 
      have hN_i9 : i9 = n := by omega
      subst i9
      refine A_iload dX8_areAirs_3 rfl ?_
      refine A_iload_n dX8_areAirs_5 rfl rfl ?_
      refine A_icmp_ge (tgt := 63) dX8_areAirs_6 rfl (fun h_1 => ?_) (fun h_1 => ?_)
      · skip
        refine A_iconst (v := 1) dX8_areAirs_63 (by decide) ?_
        refine A_zret dX8_areAirs_64 rfl (rfl) (az_pi hP ?_ (rfl))
        exact b2i_t hall
      · skip
        exact absurd (Int32.le_refl _) h_1
    | succ q_i9 ih =>
      intro i9  hi_i9 hall 
      refine A_iload dX8_areAirs_3 rfl ?_
      refine A_iload_n dX8_areAirs_5 rfl rfl ?_
      refine A_icmp_ge (tgt := 63) dX8_areAirs_6 rfl (fun h_2 => ?_) (fun h_2 => ?_)
      · skip
        exact absurd h_2 (nI_ge (by omega) (by omega))
      · skip
        refine A_aload_n dX8_areAirs_9 rfl rfl ?_
        refine B_getR (r := 64) dX8_areAirs_10 flX8_21 (hM 0 _ rfl) rfl ?_
        refine A_iload_n dX8_areAirs_13 rfl rfl ?_
        have hL_s := lyM_row' hM (show s < 8 by omega)
        refine B_aald (i := s) (r := (65 + s)) dX8_areAirs_14 (hM 4 _ rfl) (by decide) rfl rfl (by decide) (rfl) (by omega) (zsm_r (show s < 8 by omega)) ?_
        refine A_iconst (v := 2) dX8_areAirs_15 (by decide) ?_
        refine A_iload dX8_areAirs_16 rfl ?_
        refine A_imul dX8_areAirs_18 ?_
        refine B_laldV (i := (2 * i9)) (q_r1 σ (nI s) i9) dX8_areAirs_19 (hL_s 0 _ rfl) (by decide) (nI_mul 2 i9) (by omega) ((congrFun hla _).trans (q_r1_l hs8 (by omega) (by omega)).symm) ?_
        refine A_lconst (v := 0) dX8_areAirs_20 (by decide) ?_
        refine A_ldc2 (v := 40) dX8_areAirs_21 lcX8_99 ?_
        refine A_callS (n := 0) dX8_areAirs_24 ksX8_in mlX8_91 rfl (c_X8_in l G d sh sg la (q_r1 σ (nI s) i9) 0 40) (by omega) (Nat.le_refl _) (Nat.le_refl _) rfl (Nat.le_of_ble_eq_true rfl) (fun r S1 hp => ?_)
        obtain ⟨rfl, rfl⟩ := hp
        show AW l G mX8_areAirs (d + 1) (az_F G Post) 0 0 27 [some (.ref 60), some (.int (nI s)), some (.int (nI n)), some (.int 1), some (.int (nI i9))] [.int (b2i (0 ≤ (q_r1 σ (nI s) i9) ∧ (q_r1 σ (nI s) i9) ≤ 40))] (sh, sg, la)
        refine A_if_eq (tgt := 55) dX8_areAirs_27 rfl (fun h_3 => ?_) (fun h_3 => ?_)
        · skip
          have h_3' := b2i_0.mp h_3
          refine A_iconst (v := 0) dX8_areAirs_55 (by decide) ?_
          refine A_zret dX8_areAirs_56 rfl (rfl) (az_pi hP ?_ (rfl))
          have hf : q_airsB σ (nI s) i9 = false := by
            unfold q_airsB
            by_cases z : 0 ≤ q_r1 σ (nI s) i9
            · rw [decide_eq_false (fun y => h_3' ⟨z, y⟩), Bool.and_false]
            · rw [decide_eq_false z, Bool.false_and]
          exact b2i_f (zallb_no (i := i9 + 1) (by omega) (zallb_x (by show (q_airsB σ (nI s) i9 && _) = false; rw [hf, Bool.false_and])))
        · skip
          have h_3' := b2i_n.mp h_3
          refine A_iload_n dX8_areAirs_30 rfl rfl ?_
          refine A_if_eq (tgt := 57) dX8_areAirs_31 rfl (fun h_4 => ?_) (fun h_4 => ?_)
          · skip
            exact absurd h_4 (by decide)
          · skip
            refine A_aload_n dX8_areAirs_34 rfl rfl ?_
            refine B_getR (r := 64) dX8_areAirs_35 flX8_21 (hM 0 _ rfl) rfl ?_
            refine A_iload_n dX8_areAirs_38 rfl rfl ?_
            refine B_aald (i := s) (r := (65 + s)) dX8_areAirs_39 (hM 4 _ rfl) (by decide) rfl rfl (by decide) (rfl) (by omega) (zsm_r (show s < 8 by omega)) ?_
            refine A_iconst (v := 2) dX8_areAirs_40 (by decide) ?_
            refine A_iload dX8_areAirs_41 rfl ?_
            refine A_imul dX8_areAirs_43 ?_
            refine A_iconst (v := 1) dX8_areAirs_44 (by decide) ?_
            refine A_iadd dX8_areAirs_45 ?_
            refine B_laldV (i := (2 * i9 + 1)) (q_r2 σ (nI s) i9) dX8_areAirs_46 (hL_s 0 _ rfl) (by decide) ((congrArg (· + 1) (nI_mul 2 i9)).trans (nI_1 _)) (by omega) ((congrFun hla _).trans (q_r2_l hs8 (by omega) (by omega)).symm) ?_
            refine A_lconst (v := 0) dX8_areAirs_47 (by decide) ?_
            refine A_lconst (v := 1) dX8_areAirs_48 (by decide) ?_
            refine A_callS (n := 0) dX8_areAirs_49 ksX8_in mlX8_91 rfl (c_X8_in l G d sh sg la (q_r2 σ (nI s) i9) 0 1) (by omega) (Nat.le_refl _) (Nat.le_refl _) rfl (Nat.le_of_ble_eq_true rfl) (fun r S1 hp => ?_)
            obtain ⟨rfl, rfl⟩ := hp
            show AW l G mX8_areAirs (d + 1) (az_F G Post) 0 0 52 [some (.ref 60), some (.int (nI s)), some (.int (nI n)), some (.int 1), some (.int (nI i9))] [.int (b2i (0 ≤ (q_r2 σ (nI s) i9) ∧ (q_r2 σ (nI s) i9) ≤ 1))] (sh, sg, la)
            refine A_if_ne (tgt := 57) dX8_areAirs_52 rfl (fun h_5 => ?_) (fun h_5 => ?_)
            · skip
              have h_5' := b2i_n.mp h_5
              refine A_iinc (v := nI (i9 + 1)) (lo2 := [some (.ref 60), some (.int (nI s)), some (.int (nI n)), some (.int 1), some (.int (nI (i9 + 1)))]) dX8_areAirs_57 rfl (nI_1 i9) (by decide) rfl ?_
              refine A_goto (tgt := 3) dX8_areAirs_60 rfl ?_
              refine ih (i9 + 1) (by omega) (zallb_y hall (by show (q_airsB σ (nI s) i9 && q_wheB σ (nI s) i9) = true; rw [(show q_airsB σ (nI s) i9 = true from by unfold q_airsB; rw [decide_eq_true h_3'.1, decide_eq_true h_3'.2]; rfl)]; unfold q_wheB; rcases i64_01.mp h_5' with z | z <;> rw [z] <;> decide))
            · skip
              have h_5' := b2i_0.mp h_5
              refine A_iconst (v := 0) dX8_areAirs_55 (by decide) ?_
              refine A_zret dX8_areAirs_56 rfl (rfl) (az_pi hP ?_ (rfl))
              have hf : q_wheB σ (nI s) i9 = false := by
                unfold q_wheB
                rw [decide_eq_false (fun y => h_5' (i64_01.mpr (Or.inl y))), decide_eq_false (fun y => h_5' (i64_01.mpr (Or.inr y)))]
                rfl
              exact b2i_f (zallb_no (i := i9 + 1) (by omega) (zallb_x (by show (_ && q_wheB σ (nI s) i9) = false; rw [hf, Bool.and_false])))
  exact loop (n) 0 (by omega) rfl
set_option maxHeartbeats 1000000 in
set_option maxRecDepth 100000 in
theorem r_isTold1 (l : Launch) (G : az_Gh) (d : Nat) (sh : List az_Sh) (u : Nat → Nat → Int32) (la : Nat → Nat → Int64) (kp tr : Option Nat) (c : CT) (σ : SGM) (s n p : Nat) (hM : az_at sh 60 (lyM 60 kp tr)) (hO : cOk c) (hL : cLv c) (hp : p < cN c) (hg : ¬ nI p = cAway c) (hs8 : s < 8) (hla : la (65 + s) = fEl (xS σ s)) (hz : 2 * n ≤ fSz (xS σ s)) (hz4 : fSz (xS σ s) ≤ 40) : FM l G (d + 3) mX8_isTold [.ref 60, .int (nI s), .int (nI n), .int (nI p), .int 1] (sh, (mput u 60 c), la) (some (.int (b2i (zallb (fun k => decide ((b2i (zsp (sAir c (q_r1 σ (nI s) k).toInt32) p = true)).toInt64 = q_r2 σ (nI s) k)) n = true)))) (sh, mput u 60 c, la) := by
  refine az_fm knX8_isTold (Nat.le_of_ble_eq_true rfl) rfl (fun Post hP => ?_)
  show AW l G mX8_isTold (d + 3) (az_F G Post) 0 0 0 [some (.ref 60), some (.int (nI s)), some (.int (nI n)), some (.int (nI p)), some (.int 1), none, none, none] [] (sh, (mput u 60 c), la)
  have h8 := hO.2
  refine A_aload_n dX8_isTold_0 rfl rfl ?_
  refine B_getV (cAir c) dX8_isTold_1 flX8_37 (hM 0 _ rfl) rfl (mr_9 _ _ _) ?_
  refine A_istore (lo2 := [some (.ref 60), some (.int (nI s)), some (.int (nI n)), some (.int (nI p)), some (.int 1), some (.int (cAir c)), none, none]) dX8_isTold_4 (by decide) rfl ?_
  refine A_iconst (v := 1) dX8_isTold_6 (by decide) ?_
  refine A_istore (lo2 := [some (.ref 60), some (.int (nI s)), some (.int (nI n)), some (.int (nI p)), some (.int 1), some (.int (cAir c)), some (.int 1), none]) dX8_isTold_7 (by decide) rfl ?_
  refine A_iconst (v := 0) dX8_isTold_9 (by decide) ?_
  refine A_istore (lo2 := [some (.ref 60), some (.int (nI s)), some (.int (nI n)), some (.int (nI p)), some (.int 1), some (.int (cAir c)), some (.int 1), some (.int 0)]) dX8_isTold_10 (by decide) rfl ?_
  refine B_sg (show _ = mput u 60 (sAir c (cAir c)) from congrArg (mput u 60) (sAir_i1 c).symm) ?_
  show AW l G mX8_isTold (d + 3) (az_F G Post) 0 0 12 [some (.ref 60), some (.int (nI s)), some (.int (nI n)), some (.int (nI p)), some (.int 1), some (.int (cAir c)), some (.int (b2i (zallb (fun k => decide ((b2i (zsp (sAir c (q_r1 σ (nI s) k).toInt32) p = true)).toInt64 = q_r2 σ (nI s) k)) 0 = true))), some (.int 0)] [] (sh, (mput u 60 (sAir c (cAir c))), la)
  have loop : ∀ (q_i9 i9 : Nat) (a9 : Int32) (x6 : Int32), i9 + q_i9 = n → x6 = b2i (zallb (fun k => decide ((b2i (zsp (sAir c (q_r1 σ (nI s) k).toInt32) p = true)).toInt64 = q_r2 σ (nI s) k)) i9 = true) → AW l G mX8_isTold (d + 3) (az_F G Post) 0 0 12 [some (.ref 60), some (.int (nI s)), some (.int (nI n)), some (.int (nI p)), some (.int 1), some (.int (cAir c)), some (.int x6), some (.int (nI i9))] [] (sh, (mput u 60 (sAir c a9)), la) := by
    intro q_i9
    induction q_i9 with
    | zero =>
      intro i9 a9 x6 hi_i9  e_x6
      have hN_i9 : i9 = n := by omega
      subst i9
      refine A_iload dX8_isTold_12 rfl ?_
      refine A_iload_n dX8_isTold_14 rfl rfl ?_
      refine A_icmp_ge (tgt := 96) dX8_isTold_15 rfl (fun h_1 => ?_) (fun h_1 => ?_)
      · skip
        refine A_aload_n dX8_isTold_96 rfl rfl ?_
        refine A_iload dX8_isTold_97 rfl ?_
        refine B_putI dX8_isTold_99 fwX8_37 (hM 0 _ rfl) rfl ?_
        refine B_sg (show _ = (mput u 60 (sAir c (cAir c))) from (mw_9 _ _ _ _).trans (congrArg (mput u 60) cw_Air_Air)) ?_
        refine B_sg (show _ = mput u 60 c from congrArg (mput u 60) (sAir_i1 c)) ?_
        refine A_iload dX8_isTold_102 rfl ?_
        refine A_zret dX8_isTold_104 rfl (by rw [e_x6]; exact narrow_b2i _) (az_pi hP ?_ (rfl))
        exact e_x6
      · skip
        exact absurd (Int32.le_refl _) h_1
    | succ q_i9 ih =>
      intro i9 a9 x6 hi_i9  e_x6
      refine A_iload dX8_isTold_12 rfl ?_
      refine A_iload_n dX8_isTold_14 rfl rfl ?_
      refine A_icmp_ge (tgt := 96) dX8_isTold_15 rfl (fun h_2 => ?_) (fun h_2 => ?_)
      · skip
        exact absurd h_2 (nI_ge (by omega) (by omega))
      · skip
        refine A_iload dX8_isTold_18 rfl ?_
        refine A_if_eq (tgt := 96) dX8_isTold_20 rfl (fun h_3 => ?_) (fun h_3 => ?_)
        · skip
          refine A_aload_n dX8_isTold_96 rfl rfl ?_
          refine A_iload dX8_isTold_97 rfl ?_
          refine B_putI dX8_isTold_99 fwX8_37 (hM 0 _ rfl) rfl ?_
          refine B_sg (show _ = (mput u 60 (sAir c (cAir c))) from (mw_9 _ _ _ _).trans (congrArg (mput u 60) cw_Air_Air)) ?_
          refine B_sg (show _ = mput u 60 c from congrArg (mput u 60) (sAir_i1 c)) ?_
          refine A_iload dX8_isTold_102 rfl ?_
          refine A_zret dX8_isTold_104 rfl (by rw [e_x6]; exact narrow_b2i _) (az_pi hP ?_ (rfl))
          have hz9 := b2i_0.mp (e_x6.symm.trans h_3)
          exact (h_3).trans (b2i_f (zallb_no (by omega) hz9))
        · skip
          refine A_aload_n dX8_isTold_23 rfl rfl ?_
          refine A_aload_n dX8_isTold_24 rfl rfl ?_
          refine B_getR (r := 64) dX8_isTold_25 flX8_21 (hM 0 _ rfl) rfl ?_
          refine A_iload_n dX8_isTold_28 rfl rfl ?_
          have hL_s := lyM_row' hM (show s < 8 by omega)
          refine B_aald (i := s) (r := (65 + s)) dX8_isTold_29 (hM 4 _ rfl) (by decide) rfl rfl (by decide) (rfl) (by omega) (zsm_r (show s < 8 by omega)) ?_
          refine A_iconst (v := 2) dX8_isTold_30 (by decide) ?_
          refine A_iload dX8_isTold_31 rfl ?_
          refine A_imul dX8_isTold_33 ?_
          refine B_laldV (i := (2 * i9)) (q_r1 σ (nI s) i9) dX8_isTold_34 (hL_s 0 _ rfl) (by decide) (nI_mul 2 i9) (by omega) ((congrFun hla _).trans (q_r1_l hs8 (by omega) (by omega)).symm) ?_
          refine A_l2i dX8_isTold_35 ?_
          refine B_putI dX8_isTold_36 fwX8_37 (hM 0 _ rfl) rfl ?_
          refine B_sg (show _ = (mput u 60 (sAir c (Int64.toInt32 (q_r1 σ (nI s) i9)))) from (mw_9 _ _ _ _).trans (congrArg (mput u 60) cw_Air_Air)) ?_
          refine A_iload dX8_isTold_39 rfl ?_
          refine A_if_eq (tgt := 60) dX8_isTold_41 rfl (fun h_4 => ?_) (fun h_4 => ?_)
          · skip
            exact absurd h_4 (by decide)
          · skip
            refine A_aload_n dX8_isTold_44 rfl rfl ?_
            refine A_iload_n dX8_isTold_45 rfl rfl ?_
            refine A_callV (n := 0) dX8_isTold_46 kvX8_speaksNow mlX8_239 rfl (az_rc_obj clX8 (hM 0 _ rfl)) (r_speaksNow l G d sh u la kp tr (sAir c (Int64.toInt32 (q_r1 σ (nI s) i9))) p hM (co_Air hO) (cv_Air hL) (cp_Air hp) (cg_Air hg)) (by omega) (Nat.le_refl _) (Nat.le_refl _) rfl (Nat.le_of_ble_eq_true rfl) (fun r S1 hp => ?_)
            obtain ⟨rfl, rfl⟩ := hp
            show AW l G mX8_isTold (d + 3) (az_F G Post) 0 0 49 [some (.ref 60), some (.int (nI s)), some (.int (nI n)), some (.int (nI p)), some (.int 1), some (.int (cAir c)), some (.int x6), some (.int (nI i9))] [.int (b2i (zsp (sAir c (Int64.toInt32 (q_r1 σ (nI s) i9))) p = true))] (sh, (mput u 60 (sAir c (Int64.toInt32 (q_r1 σ (nI s) i9)))), la)
            refine A_if_eq (tgt := 56) dX8_isTold_49 rfl (fun h_5 => ?_) (fun h_5 => ?_)
            · skip
              have h_5' := b2i_0.mp h_5
              refine A_iconst (v := 0) dX8_isTold_56 (by decide) ?_
              refine A_goto (tgt := 65) dX8_isTold_57 rfl ?_
              refine B_top (y := b2i (zsp (sAir c (Int64.toInt32 (q_r1 σ (nI s) i9))) p = true)) (b2i_f h_5') ?_
              refine A_i2l dX8_isTold_65 ?_
              refine A_aload_n dX8_isTold_66 rfl rfl ?_
              refine B_getR (r := 64) dX8_isTold_67 flX8_21 (hM 0 _ rfl) rfl ?_
              refine A_iload_n dX8_isTold_70 rfl rfl ?_
              refine B_aald (i := s) (r := (65 + s)) dX8_isTold_71 (hM 4 _ rfl) (by decide) rfl rfl (by decide) (rfl) (by omega) (zsm_r (show s < 8 by omega)) ?_
              refine A_iconst (v := 2) dX8_isTold_72 (by decide) ?_
              refine A_iload dX8_isTold_73 rfl ?_
              refine A_imul dX8_isTold_75 ?_
              refine A_iconst (v := 1) dX8_isTold_76 (by decide) ?_
              refine A_iadd dX8_isTold_77 ?_
              refine B_laldV (i := (2 * i9 + 1)) (q_r2 σ (nI s) i9) dX8_isTold_78 (hL_s 0 _ rfl) (by decide) ((congrArg (· + 1) (nI_mul 2 i9)).trans (nI_1 _)) (by omega) ((congrFun hla _).trans (q_r2_l hs8 (by omega) (by omega)).symm) ?_
              refine A_lcmp dX8_isTold_79 ?_
              refine A_if_ne (tgt := 87) dX8_isTold_80 rfl (fun h_6 => ?_) (fun h_6 => ?_)
              · skip
                refine A_iconst (v := 0) dX8_isTold_87 (by decide) ?_
                refine A_istore (lo2 := [some (.ref 60), some (.int (nI s)), some (.int (nI n)), some (.int (nI p)), some (.int 1), some (.int (cAir c)), some (.int 0), some (.int (nI i9))]) dX8_isTold_88 (by decide) rfl ?_
                refine A_iinc (v := nI (i9 + 1)) (lo2 := [some (.ref 60), some (.int (nI s)), some (.int (nI n)), some (.int (nI p)), some (.int 1), some (.int (cAir c)), some (.int 0), some (.int (nI (i9 + 1)))]) dX8_isTold_90 rfl (nI_1 i9) (by decide) rfl ?_
                refine A_goto (tgt := 12) dX8_isTold_93 rfl ?_
                refine ih (i9 + 1) _ _ (by omega) ?_
                · skip
                  rw [zallb_s, b2i_n.mp (fun q => h_3 (e_x6.trans q)), Bool.true_and]; exact b2i_f (fun q => h_6 (lcmp_0.mpr (of_decide_eq_true q)))
              · skip
                refine A_iconst (v := 1) dX8_isTold_83 (by decide) ?_
                refine A_goto (tgt := 88) dX8_isTold_84 rfl ?_
                refine A_istore (lo2 := [some (.ref 60), some (.int (nI s)), some (.int (nI n)), some (.int (nI p)), some (.int 1), some (.int (cAir c)), some (.int 1), some (.int (nI i9))]) dX8_isTold_88 (by decide) rfl ?_
                refine A_iinc (v := nI (i9 + 1)) (lo2 := [some (.ref 60), some (.int (nI s)), some (.int (nI n)), some (.int (nI p)), some (.int 1), some (.int (cAir c)), some (.int 1), some (.int (nI (i9 + 1)))]) dX8_isTold_90 rfl (nI_1 i9) (by decide) rfl ?_
                refine A_goto (tgt := 12) dX8_isTold_93 rfl ?_
                refine ih (i9 + 1) _ _ (by omega) ?_
                · skip
                  rw [zallb_s, b2i_n.mp (fun q => h_3 (e_x6.trans q)), Bool.true_and]; exact b2i_t (decide_eq_true (lcmp_0.mp h_6))
            · skip
              have h_5' := b2i_n.mp h_5
              refine A_iconst (v := 1) dX8_isTold_52 (by decide) ?_
              refine A_goto (tgt := 65) dX8_isTold_53 rfl ?_
              refine B_top (y := b2i (zsp (sAir c (Int64.toInt32 (q_r1 σ (nI s) i9))) p = true)) (b2i_t h_5') ?_
              refine A_i2l dX8_isTold_65 ?_
              refine A_aload_n dX8_isTold_66 rfl rfl ?_
              refine B_getR (r := 64) dX8_isTold_67 flX8_21 (hM 0 _ rfl) rfl ?_
              refine A_iload_n dX8_isTold_70 rfl rfl ?_
              refine B_aald (i := s) (r := (65 + s)) dX8_isTold_71 (hM 4 _ rfl) (by decide) rfl rfl (by decide) (rfl) (by omega) (zsm_r (show s < 8 by omega)) ?_
              refine A_iconst (v := 2) dX8_isTold_72 (by decide) ?_
              refine A_iload dX8_isTold_73 rfl ?_
              refine A_imul dX8_isTold_75 ?_
              refine A_iconst (v := 1) dX8_isTold_76 (by decide) ?_
              refine A_iadd dX8_isTold_77 ?_
              refine B_laldV (i := (2 * i9 + 1)) (q_r2 σ (nI s) i9) dX8_isTold_78 (hL_s 0 _ rfl) (by decide) ((congrArg (· + 1) (nI_mul 2 i9)).trans (nI_1 _)) (by omega) ((congrFun hla _).trans (q_r2_l hs8 (by omega) (by omega)).symm) ?_
              refine A_lcmp dX8_isTold_79 ?_
              refine A_if_ne (tgt := 87) dX8_isTold_80 rfl (fun h_7 => ?_) (fun h_7 => ?_)
              · skip
                refine A_iconst (v := 0) dX8_isTold_87 (by decide) ?_
                refine A_istore (lo2 := [some (.ref 60), some (.int (nI s)), some (.int (nI n)), some (.int (nI p)), some (.int 1), some (.int (cAir c)), some (.int 0), some (.int (nI i9))]) dX8_isTold_88 (by decide) rfl ?_
                refine A_iinc (v := nI (i9 + 1)) (lo2 := [some (.ref 60), some (.int (nI s)), some (.int (nI n)), some (.int (nI p)), some (.int 1), some (.int (cAir c)), some (.int 0), some (.int (nI (i9 + 1)))]) dX8_isTold_90 rfl (nI_1 i9) (by decide) rfl ?_
                refine A_goto (tgt := 12) dX8_isTold_93 rfl ?_
                refine ih (i9 + 1) _ _ (by omega) ?_
                · skip
                  rw [zallb_s, b2i_n.mp (fun q => h_3 (e_x6.trans q)), Bool.true_and]; exact b2i_f (fun q => h_7 (lcmp_0.mpr (of_decide_eq_true q)))
              · skip
                refine A_iconst (v := 1) dX8_isTold_83 (by decide) ?_
                refine A_goto (tgt := 88) dX8_isTold_84 rfl ?_
                refine A_istore (lo2 := [some (.ref 60), some (.int (nI s)), some (.int (nI n)), some (.int (nI p)), some (.int 1), some (.int (cAir c)), some (.int 1), some (.int (nI i9))]) dX8_isTold_88 (by decide) rfl ?_
                refine A_iinc (v := nI (i9 + 1)) (lo2 := [some (.ref 60), some (.int (nI s)), some (.int (nI n)), some (.int (nI p)), some (.int 1), some (.int (cAir c)), some (.int 1), some (.int (nI (i9 + 1)))]) dX8_isTold_90 rfl (nI_1 i9) (by decide) rfl ?_
                refine A_goto (tgt := 12) dX8_isTold_93 rfl ?_
                refine ih (i9 + 1) _ _ (by omega) ?_
                · skip
                  rw [zallb_s, b2i_n.mp (fun q => h_3 (e_x6.trans q)), Bool.true_and]; exact b2i_t (decide_eq_true (lcmp_0.mp h_7))
  exact loop (n) 0 _ _ (by omega) (rfl)
set_option maxHeartbeats 1000000 in
set_option maxRecDepth 100000 in
theorem r_isTold0 (l : Launch) (G : az_Gh) (d : Nat) (sh : List az_Sh) (u : Nat → Nat → Int32) (la : Nat → Nat → Int64) (kp tr : Option Nat) (c : CT) (σ : SGM) (s n p : Nat) (hM : az_at sh 60 (lyM 60 kp tr)) (hO : cOk c) (hL : cLv c) (hp : p < cN c) (hg : ¬ nI p = cAway c) (hs8 : s < 8) (hla : la (65 + s) = fEl (xS σ s)) (hz : 2 * n ≤ fSz (xS σ s)) (hz4 : fSz (xS σ s) ≤ 40) : FM l G (d + 3) mX8_isTold [.ref 60, .int (nI s), .int (nI n), .int (nI p), .int 0] (sh, (mput u 60 c), la) (some (.int (b2i (zallb (fun k => decide ((zc (sAir c (q_r1 σ (nI s) k).toInt32) p).toInt64 = q_r2 σ (nI s) k)) n = true)))) (sh, mput u 60 c, la) := by
  refine az_fm knX8_isTold (Nat.le_of_ble_eq_true rfl) rfl (fun Post hP => ?_)
  show AW l G mX8_isTold (d + 3) (az_F G Post) 0 0 0 [some (.ref 60), some (.int (nI s)), some (.int (nI n)), some (.int (nI p)), some (.int 0), none, none, none] [] (sh, (mput u 60 c), la)
  have h8 := hO.2
  refine A_aload_n dX8_isTold_0 rfl rfl ?_
  refine B_getV (cAir c) dX8_isTold_1 flX8_37 (hM 0 _ rfl) rfl (mr_9 _ _ _) ?_
  refine A_istore (lo2 := [some (.ref 60), some (.int (nI s)), some (.int (nI n)), some (.int (nI p)), some (.int 0), some (.int (cAir c)), none, none]) dX8_isTold_4 (by decide) rfl ?_
  refine A_iconst (v := 1) dX8_isTold_6 (by decide) ?_
  refine A_istore (lo2 := [some (.ref 60), some (.int (nI s)), some (.int (nI n)), some (.int (nI p)), some (.int 0), some (.int (cAir c)), some (.int 1), none]) dX8_isTold_7 (by decide) rfl ?_
  refine A_iconst (v := 0) dX8_isTold_9 (by decide) ?_
  refine A_istore (lo2 := [some (.ref 60), some (.int (nI s)), some (.int (nI n)), some (.int (nI p)), some (.int 0), some (.int (cAir c)), some (.int 1), some (.int 0)]) dX8_isTold_10 (by decide) rfl ?_
  refine B_sg (show _ = mput u 60 (sAir c (cAir c)) from congrArg (mput u 60) (sAir_i1 c).symm) ?_
  show AW l G mX8_isTold (d + 3) (az_F G Post) 0 0 12 [some (.ref 60), some (.int (nI s)), some (.int (nI n)), some (.int (nI p)), some (.int 0), some (.int (cAir c)), some (.int (b2i (zallb (fun k => decide ((zc (sAir c (q_r1 σ (nI s) k).toInt32) p).toInt64 = q_r2 σ (nI s) k)) 0 = true))), some (.int 0)] [] (sh, (mput u 60 (sAir c (cAir c))), la)
  have loop : ∀ (q_i9 i9 : Nat) (a9 : Int32) (x6 : Int32), i9 + q_i9 = n → x6 = b2i (zallb (fun k => decide ((zc (sAir c (q_r1 σ (nI s) k).toInt32) p).toInt64 = q_r2 σ (nI s) k)) i9 = true) → AW l G mX8_isTold (d + 3) (az_F G Post) 0 0 12 [some (.ref 60), some (.int (nI s)), some (.int (nI n)), some (.int (nI p)), some (.int 0), some (.int (cAir c)), some (.int x6), some (.int (nI i9))] [] (sh, (mput u 60 (sAir c a9)), la) := by
    intro q_i9
    induction q_i9 with
    | zero =>
      intro i9 a9 x6 hi_i9  e_x6
      have hN_i9 : i9 = n := by omega
      subst i9
      refine A_iload dX8_isTold_12 rfl ?_
      refine A_iload_n dX8_isTold_14 rfl rfl ?_
      refine A_icmp_ge (tgt := 96) dX8_isTold_15 rfl (fun h_1 => ?_) (fun h_1 => ?_)
      · skip
        refine A_aload_n dX8_isTold_96 rfl rfl ?_
        refine A_iload dX8_isTold_97 rfl ?_
        refine B_putI dX8_isTold_99 fwX8_37 (hM 0 _ rfl) rfl ?_
        refine B_sg (show _ = (mput u 60 (sAir c (cAir c))) from (mw_9 _ _ _ _).trans (congrArg (mput u 60) cw_Air_Air)) ?_
        refine B_sg (show _ = mput u 60 c from congrArg (mput u 60) (sAir_i1 c)) ?_
        refine A_iload dX8_isTold_102 rfl ?_
        refine A_zret dX8_isTold_104 rfl (by rw [e_x6]; exact narrow_b2i _) (az_pi hP ?_ (rfl))
        exact e_x6
      · skip
        exact absurd (Int32.le_refl _) h_1
    | succ q_i9 ih =>
      intro i9 a9 x6 hi_i9  e_x6
      refine A_iload dX8_isTold_12 rfl ?_
      refine A_iload_n dX8_isTold_14 rfl rfl ?_
      refine A_icmp_ge (tgt := 96) dX8_isTold_15 rfl (fun h_2 => ?_) (fun h_2 => ?_)
      · skip
        exact absurd h_2 (nI_ge (by omega) (by omega))
      · skip
        refine A_iload dX8_isTold_18 rfl ?_
        refine A_if_eq (tgt := 96) dX8_isTold_20 rfl (fun h_3 => ?_) (fun h_3 => ?_)
        · skip
          refine A_aload_n dX8_isTold_96 rfl rfl ?_
          refine A_iload dX8_isTold_97 rfl ?_
          refine B_putI dX8_isTold_99 fwX8_37 (hM 0 _ rfl) rfl ?_
          refine B_sg (show _ = (mput u 60 (sAir c (cAir c))) from (mw_9 _ _ _ _).trans (congrArg (mput u 60) cw_Air_Air)) ?_
          refine B_sg (show _ = mput u 60 c from congrArg (mput u 60) (sAir_i1 c)) ?_
          refine A_iload dX8_isTold_102 rfl ?_
          refine A_zret dX8_isTold_104 rfl (by rw [e_x6]; exact narrow_b2i _) (az_pi hP ?_ (rfl))
          have hz9 := b2i_0.mp (e_x6.symm.trans h_3)
          exact (h_3).trans (b2i_f (zallb_no (by omega) hz9))
        · skip
          refine A_aload_n dX8_isTold_23 rfl rfl ?_
          refine A_aload_n dX8_isTold_24 rfl rfl ?_
          refine B_getR (r := 64) dX8_isTold_25 flX8_21 (hM 0 _ rfl) rfl ?_
          refine A_iload_n dX8_isTold_28 rfl rfl ?_
          have hL_s := lyM_row' hM (show s < 8 by omega)
          refine B_aald (i := s) (r := (65 + s)) dX8_isTold_29 (hM 4 _ rfl) (by decide) rfl rfl (by decide) (rfl) (by omega) (zsm_r (show s < 8 by omega)) ?_
          refine A_iconst (v := 2) dX8_isTold_30 (by decide) ?_
          refine A_iload dX8_isTold_31 rfl ?_
          refine A_imul dX8_isTold_33 ?_
          refine B_laldV (i := (2 * i9)) (q_r1 σ (nI s) i9) dX8_isTold_34 (hL_s 0 _ rfl) (by decide) (nI_mul 2 i9) (by omega) ((congrFun hla _).trans (q_r1_l hs8 (by omega) (by omega)).symm) ?_
          refine A_l2i dX8_isTold_35 ?_
          refine B_putI dX8_isTold_36 fwX8_37 (hM 0 _ rfl) rfl ?_
          refine B_sg (show _ = (mput u 60 (sAir c (Int64.toInt32 (q_r1 σ (nI s) i9)))) from (mw_9 _ _ _ _).trans (congrArg (mput u 60) cw_Air_Air)) ?_
          refine A_iload dX8_isTold_39 rfl ?_
          refine A_if_eq (tgt := 60) dX8_isTold_41 rfl (fun h_4 => ?_) (fun h_4 => ?_)
          · skip
            refine A_aload_n dX8_isTold_60 rfl rfl ?_
            refine A_iload_n dX8_isTold_61 rfl rfl ?_
            refine A_callV (n := 0) dX8_isTold_62 kvX8_cold mlX8_122 rfl (az_rc_obj clX8 (hM 0 _ rfl)) (r_cold l G (d + 1) sh u la kp tr (sAir c (Int64.toInt32 (q_r1 σ (nI s) i9))) p hM (co_Air hO) (cv_Air hL) (cp_Air hp) (cg_Air hg)) (by omega) (Nat.le_refl _) (Nat.le_refl _) rfl (Nat.le_of_ble_eq_true rfl) (fun r S1 hp => ?_)
            obtain ⟨rfl, rfl⟩ := hp
            show AW l G mX8_isTold (d + 3) (az_F G Post) 0 0 65 [some (.ref 60), some (.int (nI s)), some (.int (nI n)), some (.int (nI p)), some (.int 0), some (.int (cAir c)), some (.int x6), some (.int (nI i9))] [.int (zc (sAir c (Int64.toInt32 (q_r1 σ (nI s) i9))) p)] (sh, (mput u 60 (sAir c (Int64.toInt32 (q_r1 σ (nI s) i9)))), la)
            refine A_i2l dX8_isTold_65 ?_
            refine A_aload_n dX8_isTold_66 rfl rfl ?_
            refine B_getR (r := 64) dX8_isTold_67 flX8_21 (hM 0 _ rfl) rfl ?_
            refine A_iload_n dX8_isTold_70 rfl rfl ?_
            refine B_aald (i := s) (r := (65 + s)) dX8_isTold_71 (hM 4 _ rfl) (by decide) rfl rfl (by decide) (rfl) (by omega) (zsm_r (show s < 8 by omega)) ?_
            refine A_iconst (v := 2) dX8_isTold_72 (by decide) ?_
            refine A_iload dX8_isTold_73 rfl ?_
            refine A_imul dX8_isTold_75 ?_
            refine A_iconst (v := 1) dX8_isTold_76 (by decide) ?_
            refine A_iadd dX8_isTold_77 ?_
            refine B_laldV (i := (2 * i9 + 1)) (q_r2 σ (nI s) i9) dX8_isTold_78 (hL_s 0 _ rfl) (by decide) ((congrArg (· + 1) (nI_mul 2 i9)).trans (nI_1 _)) (by omega) ((congrFun hla _).trans (q_r2_l hs8 (by omega) (by omega)).symm) ?_
            refine A_lcmp dX8_isTold_79 ?_
            refine A_if_ne (tgt := 87) dX8_isTold_80 rfl (fun h_5 => ?_) (fun h_5 => ?_)
            · skip
              refine A_iconst (v := 0) dX8_isTold_87 (by decide) ?_
              refine A_istore (lo2 := [some (.ref 60), some (.int (nI s)), some (.int (nI n)), some (.int (nI p)), some (.int 0), some (.int (cAir c)), some (.int 0), some (.int (nI i9))]) dX8_isTold_88 (by decide) rfl ?_
              refine A_iinc (v := nI (i9 + 1)) (lo2 := [some (.ref 60), some (.int (nI s)), some (.int (nI n)), some (.int (nI p)), some (.int 0), some (.int (cAir c)), some (.int 0), some (.int (nI (i9 + 1)))]) dX8_isTold_90 rfl (nI_1 i9) (by decide) rfl ?_
              refine A_goto (tgt := 12) dX8_isTold_93 rfl ?_
              refine ih (i9 + 1) _ _ (by omega) ?_
              · skip
                rw [zallb_s, b2i_n.mp (fun q => h_3 (e_x6.trans q)), Bool.true_and]; exact b2i_f (fun q => h_5 (lcmp_0.mpr (of_decide_eq_true q)))
            · skip
              refine A_iconst (v := 1) dX8_isTold_83 (by decide) ?_
              refine A_goto (tgt := 88) dX8_isTold_84 rfl ?_
              refine A_istore (lo2 := [some (.ref 60), some (.int (nI s)), some (.int (nI n)), some (.int (nI p)), some (.int 0), some (.int (cAir c)), some (.int 1), some (.int (nI i9))]) dX8_isTold_88 (by decide) rfl ?_
              refine A_iinc (v := nI (i9 + 1)) (lo2 := [some (.ref 60), some (.int (nI s)), some (.int (nI n)), some (.int (nI p)), some (.int 0), some (.int (cAir c)), some (.int 1), some (.int (nI (i9 + 1)))]) dX8_isTold_90 rfl (nI_1 i9) (by decide) rfl ?_
              refine A_goto (tgt := 12) dX8_isTold_93 rfl ?_
              refine ih (i9 + 1) _ _ (by omega) ?_
              · skip
                rw [zallb_s, b2i_n.mp (fun q => h_3 (e_x6.trans q)), Bool.true_and]; exact b2i_t (decide_eq_true (lcmp_0.mp h_5))
          · skip
            exact absurd (by decide) h_4
  exact loop (n) 0 _ _ (by omega) (rfl)
