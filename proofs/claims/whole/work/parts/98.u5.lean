theorem neg20 : ∀ k, k < 251 → ¬ (0 : Int32) ≤ -20 - nI k := by decide +kernel
set_option maxHeartbeats 1000000 in
set_option maxRecDepth 100000 in
theorem y_ctail (l : Launch) (G : az_Gh) (d : Nat) (sh : List az_Sh) (sg : Nat → Nat → Int32) (la : Nat → Nat → Int64) (g : GGM) (σ : SGM) (kp : Option Nat) (k : Nat) (hS : RS sh kp (some k)) (hR : RX g sg la σ kp (some k)) (hW : WF σ) (Post : Option Value → az_St → Prop) (hP : ∀ r S1, RQ sh g kp (some k) (.int (q_country σ).1) (q_country σ).2 r S1 → Post r S1) : AW l G mX8_country (d + 32) (az_F G Post) 0 0 18 [some (.ref 60), none] [] (sh, sg, la) := by
  have hM := hS.1
  have hK := hS.2.2.1 k rfl
  rcases hR.2.2.2.2.2.1 with z | ⟨k3, c, z1, z2, z3, z4, z5, z6⟩
  · cases z
  obtain rfl : k = k3 := Option.some.inj z1
  refine A_aload_n dX8_country_18 rfl rfl ?_
  refine B_getR dX8_country_19 flX8_215 (hM 0 _ rfl) rfl ?_
  refine A_aload_n dX8_country_22 rfl rfl ?_
  refine A_callV (n := 0) dX8_country_23 kvX8_takeFrom mlX8_220 rfl (az_rc_obj clX8 (hK 0 _ rfl)) (r_takeFrom l G (d + 30) sh sg la k 60 none none kp (some k) c (xN σ) hK hM (by omega) z4 hR.1 (hW.1.2.2.1.trans z6.symm) z5 hW.1.2.1) (by omega) (Nat.le_refl _) (Nat.le_refl _) rfl (Nat.le_of_ble_eq_true rfl) (fun r S1 hp => ?_)
  obtain ⟨rfl, rfl⟩ := hp
  have h1 := hR.setTr (xN σ) hW.1.2.1 hW.1.2.2.1
  have hk1 : mput (mput sg k (xN σ)) k (xN σ) = mput sg k (xN σ) := mput_mput _ _ _ _
  generalize mput sg k (xN σ) = u at h1 hk1 ⊢
  show AW l G mX8_country (d + 32) (az_F G Post) 0 0 26 [some (.ref 60), none] [] (sh, u, la)
  refine B_sg h1.1.symm ?_
  refine A_aload_n dX8_country_26 rfl rfl ?_
  refine A_callV (n := 0) dX8_country_27 kvX8_readAll mlX8_224 rfl (az_rc_obj clX8 (hM 0 _ rfl)) (r_readAll l G (d + 24) sh u la kp (some k) (xN σ) (xTb σ) (xTn σ) hM hW.1.1.1 h1.2.1.2 h1.2.1.1 hW.2.2.1) (by omega) (Nat.le_refl _) (Nat.le_refl _) rfl (Nat.le_of_ble_eq_true rfl) (fun r S1 hp => ?_)
  obtain ⟨v, a, t, f, g9, hs, hT, hm, rfl, hr⟩ := hp
  have hrd : zrd (xTb σ) (xTn σ) 250 1 0 (xN σ) = q_rd σ := rfl
  rw [hrd] at hr ⊢
  have hcw := (cW_rd (T := xTb σ) (m := xTn σ) 250 1 0 (xN σ) (Nat.zero_le _) hW.1).1
  rw [hrd] at hcw
  have h2 := h1.fin (hs.tk a t f g9) (q_rd σ).2
  have h3 : RX g (az_w (mput (mTk v a t f g9) 60 (q_rd σ).2) 60 7 0) la (yT (yN σ (q_rd σ).2) 0 (xTb σ)) kp (some k) := h2.setT (fun k2 a1 _ => az_w_ne a1) (fun j a1 => az_w_nj a1) (az_w_at _ _ _ _) ((az_w_ne (by decide)).trans h2.2.1.2)
  have hr1 : ∃ b : Int32, r = some (.int b) ∧ ((b = 1 ∧ ∃ k2, k2 ≤ 250 ∧ v 60 29 = nI k2 ∧ (q_rd σ).1 = nI k2) ∨ (b = 0 ∧ ∃ k2, k2 ≤ 250 ∧ v 60 27 = nI k2 ∧ (q_rd σ).1 = -20 - nI k2)) := by
    rcases hr with ⟨q1, q2⟩ | ⟨q1, q2⟩
    · exact ⟨1, q1, Or.inl ⟨rfl, q2⟩⟩
    · exact ⟨0, q1, Or.inr ⟨rfl, q2⟩⟩
  obtain ⟨b, rfl, hb⟩ := hr1
  show AW l G mX8_country (d + 32) (az_F G Post) 0 0 30 [some (.ref 60), none] [.int b] (sh, mput (mTk v a t f g9) 60 (q_rd σ).2, la)
  refine A_istore_n (lo2 := [some (.ref 60), some (.int b)]) dX8_country_30 rfl (by decide) rfl ?_
  refine A_aload_n dX8_country_31 rfl rfl ?_
  refine A_iconst (v := 0) dX8_country_32 (by decide) ?_
  refine B_putI dX8_country_33 fwX8_144 (hM 0 _ rfl) rfl ?_
  refine A_iload_n dX8_country_36 rfl rfl ?_
  refine A_if_ne (tgt := 63) dX8_country_37 rfl (fun h_1 => ?_) (fun h_1 => ?_)
  · rcases hb with ⟨hb, k2, hk2, q1, q2⟩ | ⟨hb, -⟩
    · refine A_aload_n dX8_country_63 rfl rfl ?_
      refine B_getV (nI k2) dX8_country_64 flX8_209 (hM 0 _ rfl) rfl ((az_w_nj (by decide)).trans ((mput_f rfl).trans ((mTk_o (by decide)).trans q1))) ?_
      have hq : q_country σ = (nI k2, yN (yT σ 0 (xTb σ)) (q_rd σ).2) := by unfold q_country; rw [if_pos (by rw [q2]; exact nI_pos' (by omega)), q2]
      exact A_iret dX8_country_67 rfl (hP _ _ (RQ_i hq h3))
    · exact absurd hb h_1
  · rcases hb with ⟨hb, -⟩ | ⟨-, k2, hk2, q1, q2⟩
    · exact absurd (hb.symm.trans h_1) (by decide)
    · refine A_aload_n dX8_country_40 rfl rfl ?_
      refine A_aload_n dX8_country_41 rfl rfl ?_
      refine B_getR dX8_country_42 flX8_215 (hM 0 _ rfl) rfl ?_
      have q3 : az_w (mput (mTk v a t f g9) 60 (q_rd σ).2) 60 7 0 60 27 = nI k2 := (az_w_nj (by decide)).trans ((mput_f rfl).trans ((mTk_o (by decide)).trans q1))
      have hk3 : mput (az_w (mput (mTk v a t f g9) 60 (q_rd σ).2) 60 7 0) k (xN σ) = az_w (mput (mTk v a t f g9) 60 (q_rd σ).2) 60 7 0 := mput_keep hk1 (fun i a1 b1 => (az_w_ne (by omega)).trans ((mput_ne (by omega) (by omega)).trans ((mTk_ne (by omega)).trans (hs.1 i (by omega) (by omega)))))
      generalize az_w (mput (mTk v a t f g9) 60 (q_rd σ).2) 60 7 0 = w at h3 q3 hk3 ⊢
      refine A_callV (n := 0) dX8_country_45 kvX8_takeFrom mlX8_220 rfl (az_rc_obj clX8 (hM 0 _ rfl)) (r_takeFrom l G (d + 30) sh w la 60 k kp (some k) none none (q_rd σ).2 (xN σ) hM hK (by omega) h3.1 hk3 (hW.1.2.2.1.trans hcw.2.2.1.symm) hcw.2.1 hW.1.2.1) (by omega) (Nat.le_refl _) (Nat.le_refl _) rfl (Nat.le_of_ble_eq_true rfl) (fun r S1 hp => ?_)
      obtain ⟨rfl, rfl⟩ := hp
      have h4 : RX g (mput w 60 (xN σ)) la (yT σ 0 (xTb σ)) kp (some k) := h3.fin (sC.rf w) (xN σ)
      have q4 : mput w 60 (xN σ) 60 27 = nI k2 := (mput_f rfl).trans q3
      generalize mput w 60 (xN σ) = w2 at h4 q4 ⊢
      show AW l G mX8_country (d + 32) (az_F G Post) 0 0 48 [some (.ref 60), some (.int b)] [] (sh, w2, la)
      refine A_aload_n dX8_country_48 rfl rfl ?_
      refine A_bipush (v := (-2)) dX8_country_49 (by decide) ?_
      refine A_callV (n := 0) dX8_country_51 kvX8_refuse mlX8_101 rfl (az_rc_obj clX8 (hM 0 _ rfl)) (c_X8_refuse l G (d + 4) sh w2 la kp (some k) (-2) 0 hM (by decide) (by decide)) (by omega) (Nat.le_refl _) (Nat.le_refl _) rfl (Nat.le_of_ble_eq_true rfl) (fun r S1 hp => ?_)
      obtain ⟨rfl, rfl⟩ := hp
      have h5 := h4.ref (k := 0) (by decide)
      refine A_pop dX8_country_54 rfl ?_
      refine A_bipush (v := (-20)) dX8_country_55 (by decide) ?_
      refine A_aload_n dX8_country_57 rfl rfl ?_
      refine B_getV (nI k2) dX8_country_58 flX8_166 (hM 0 _ rfl) rfl ((congrFun (az_w_ne (by decide)) 27).trans q4) ?_
      refine A_isub dX8_country_61 ?_
      have hq : q_country σ = (-20 - nI k2, rfs (yT σ 0 (xTb σ)) 0) := by unfold q_country; rw [if_neg (by rw [q2]; exact neg20 k2 (by omega)), q2]
      exact A_iret dX8_country_62 rfl (hP _ _ (RQ_i hq h5))
set_option maxHeartbeats 1000000 in
set_option maxRecDepth 100000 in
theorem y_country_k (l : Launch) (G : az_Gh) (d : Nat) (sh : List az_Sh) (sg : Nat → Nat → Int32) (la : Nat → Nat → Int64) (g : GGM) (σ : SGM) (kp : Option Nat) (k : Nat) (hS : RS sh kp (some k)) (hR : RX g sg la σ kp (some k)) (hW : WF σ) : AM l G (d + 32) mX8_country [.ref 60] (sh, sg, la) 0 0 (RQ sh g kp (some k) (.int (q_country σ).1) (q_country σ).2) := by
  refine az_am knX8_country (Nat.le_of_ble_eq_true rfl) rfl (fun Post hP => ?_)
  show AW l G mX8_country (d + 32) (az_F G Post) 0 0 0 [some (.ref 60), none] [] (sh, sg, la)
  have hM := hS.1
  refine A_aload_n dX8_country_0 rfl rfl ?_
  refine B_getR dX8_country_1 flX8_215 (hM 0 _ rfl) rfl ?_
  refine A_ifnonnull (tgt := 18) dX8_country_4 rfl ?_
  exact y_ctail l G d sh sg la g σ kp k hS hR hW Post hP
set_option maxHeartbeats 1000000 in
set_option maxRecDepth 100000 in
theorem y_country_0 (l : Launch) (G : az_Gh) (d : Nat) (sh : List az_Sh) (sg : Nat → Nat → Int32) (la : Nat → Nat → Int64) (g : GGM) (σ : SGM) (kp : Option Nat) (hS : RS sh kp none) (hR : RX g sg la σ kp none) (hW : WF σ) : AM l G (d + 32) mX8_country [.ref 60] (sh, sg, la) 33 1069 (RN sh g kp none (.int (q_country σ).1) (q_country σ).2) := by
  refine az_ab knX8_country (Nat.le_of_ble_eq_true rfl) rfl (fun Post hP => ?_)
  show AW l G mX8_country (d + 32) (az_F G Post) 33 1069 0 [some (.ref 60), none] [] (sh, sg, la)
  have hM := hS.1
  have hn9 := (RS_nt hS rfl).2.2.1
  generalize hn : sh.length = n at hn9
  obtain ⟨hS1, hlo, -, hne⟩ := RS_nt hS hn
  refine A_aload_n dX8_country_0 rfl rfl ?_
  refine B_getN dX8_country_1 flX8_215 (hM 0 _ rfl) rfl ?_
  refine A_ifnonnullN dX8_country_4 ?_
  refine A_aload_n dX8_country_7 rfl rfl ?_
  refine A_newO (bc2 := 32) (bs2 := 1027) dX8_country_8 clX8 ckX8_8 in_RX8 ii_RX8 dfX8.symm (by decide) (by decide) (by decide) (by show sh.length < 1000; omega) ?_
  show AW l G mX8_country (d + 32) (az_F G Post) 32 1027 11 [some (.ref 60), none] [.ref sh.length, .ref 60] (sh ++ [(8, 0, [some none, some none, some none, some none, some none, some none, some none, none, some none, none, none, none, none, none, none, some none, some none, some none, some none, some none, none, some none, some none, none, none, none, none, none, some none, none, none, none, none, some none, none, none, none, some none, some none, none, none, some none])], az_z sg sh.length, az_z la sh.length)
  rw [hn]
  refine A_dup dX8_country_11 rfl ?_
  refine A_callI (n := 0) (as := []) (bc2 := 0) (bs2 := 0) dX8_country_12 kiX8_init mlX8_219 rfl (i_X8 l G (d + 30) sh sg la n hn (by omega)) (by omega) (by decide) (by decide) rfl (Nat.le_of_ble_eq_true rfl) (fun r S1 hp => ?_)
  obtain ⟨rfl, rfl⟩ := hp
  show AW l G mX8_country (d + 32) (az_F G Post) 0 0 15 [some (.ref 60), none] [.ref n, .ref 60] (sh ++ lyM n none none, sgM sg n, az_z la n)
  refine B_putR (j := 22) dX8_country_15 fwX8_215 (ap_lt (hM 0 _ rfl)) (Nat.le_of_ble_eq_true rfl) (fun _ => rfl) (fun _ => rfl) rfl ?_
  show AW l G mX8_country (d + 32) (az_F G Post) 0 0 18 [some (.ref 60), none] [] (sNt sh n kp, sgM sg n, az_z la n)
  have hM1 := hS1.1
  have hN1 := hS1.2.2.1 n rfl
  have hx1 : mput (sgM sg n) 60 (xN σ) = sgM sg n := mput_keep hR.1 (fun i a b => sgM_lt (by omega))
  have h1 : RX g (sgM sg n) (az_z la n) σ kp (some n) := by
    refine hR.far (fun i hi => sgM_lt (by omega)) (fun i hi => az_zL_lt (by omega)) rfl rfl rfl rfl rfl ?_ (Or.inr ⟨n, c00, rfl, hn9, hne, sgM_00 sg n, c00_tl, rfl⟩)
    rcases hR.2.2.2.2.1 with q | ⟨k2, c2, q1, q2, q3, q4⟩
    · exact Or.inl q
    · have hk3 : k2 + 32 < n := by
        rcases hS.2.2.2 with z | z | z | z | z
        · rw [z.1] at q2; cases q2
        · rw [z.1] at q2; cases q2; have := z.2.2; omega
        · exact absurd z.2.1 (by intro y; cases y)
        · exact absurd z.2 (by intro y; cases y)
        · exact absurd z.2 (by intro y; cases y)
      exact Or.inr ⟨k2, c2, q1, q2, q3, mput_keep q4 (fun i a b => sgM_lt (by omega))⟩
  refine y_ctail l G d (sNt sh n kp) (sgM sg n) (az_z la n) g σ kp n hS1 h1 hW Post (fun r S1 hq => ?_)
  obtain ⟨rfl, s2, l2, rfl, h2⟩ := hq
  exact hP _ _ ⟨rfl, sNt sh n kp, kp, some n, s2, l2, rfl, hS1, hlo, h2, Or.inr ⟨rfl, ⟨n, rfl⟩, rfl⟩⟩
