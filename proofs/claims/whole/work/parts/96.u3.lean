def RS (sh : List az_Sh) (kp tr : Option Nat) : Prop := az_at sh 60 (lyM 60 kp tr) ∧ (∀ k, kp = some k → az_at sh k (lyM k none none)) ∧ (∀ k, tr = some k → az_at sh k (lyM k none none)) ∧ ((kp = none ∧ tr = none ∧ sh.length = 93) ∨ (kp = some 93 ∧ tr = none ∧ sh.length = 126) ∨ (kp = none ∧ tr = some 93 ∧ sh.length = 126) ∨ (kp = some 93 ∧ tr = some 126) ∨ (kp = some 126 ∧ tr = some 93))
/-- what lies beyond the reference's own cells changes -/
theorem RX.far {g : GGM} {sg : Nat → Nat → Int32} {la : Nat → Nat → Int64} {σ : SGM} {kp tr : Option Nat} (h : RX g sg la σ kp tr) {s' : Nat → Nat → Int32} {l' : Nat → Nat → Int64} {σ' : SGM} {kp' tr' : Option Nat} (he : ∀ i, i < 93 → s' i = sg i) (hl : ∀ i, i < 93 → l' i = la i) (e1 : xN σ' = xN σ) (e2 : xTn σ' = xTn σ) (e3 : xTb σ' = xTb σ) (e4 : xS σ' = xS σ) (e5 : xR σ' = xR σ) (hk : rKp s' σ' kp') (ht : rTr s' kp' tr') : RX g s' l' σ' kp' tr' := by
  obtain ⟨h1, ⟨h2, h3⟩, h4, h5, h6, h7, h8⟩ := h
  refine ⟨?_, ⟨?_, ?_⟩, ?_, ?_, hk, ht, ?_⟩
  · rw [e1]; exact mput_keep h1 (fun i q1 q2 => he i (by omega))
  · rw [he 60 (by omega), e2]; exact h2
  · rw [he 75 (by omega), e3]; exact h3
  · intro s hs
    rw [e4]
    obtain ⟨q1, q2, q3, q4⟩ := h4 s hs
    unfold rSh
    rw [he 61 (by omega), he 62 (by omega), he 63 (by omega), he 74 (by omega), hl (65 + s) (by omega)]
    exact ⟨q1, q2, q3, q4⟩
  · intro k hk; rw [he 76 (by omega), e5]; exact h5 k hk
  · intro k hk; rw [he k (by omega), hl k (by omega)]; exact h8 k hk
theorem RX.setK {g : GGM} {sg : Nat → Nat → Int32} {la : Nat → Nat → Int64} {σ : SGM} {k : Nat} {tr : Option Nat} (h : RX g sg la σ (some k) tr) (hk : k = 93 ∨ k = 126) (c : CT) : RX g (mput sg k c) la (yK σ c) (some k) tr := by
  refine h.far (fun i hi => mput_ne (by omega) (by omega)) (fun _ _ => rfl) rfl rfl rfl rfl rfl (Or.inr ⟨k, c, rfl, rfl, hk, mput_mput _ _ _ _⟩) ?_
  rcases h.2.2.2.2.2.1 with q | ⟨k2, c2, q1, q2, q3, q4, q5⟩
  · exact Or.inl q
  · refine Or.inr ⟨k2, c2, q1, q2, q3, ?_, q5⟩
    have hne : k ≠ k2 := fun z => q3 (by rw [z])
    exact mput_keep q4 (fun i a b => mput_ne (by omega) (by omega))
theorem RX.setTr {g : GGM} {sg : Nat → Nat → Int32} {la : Nat → Nat → Int64} {σ : SGM} {k : Nat} {kp : Option Nat} (h : RX g sg la σ kp (some k)) (c : CT) (hc : cTl c) (ha : cAway c = -1) : RX g (mput sg k c) la σ kp (some k) := by
  rcases h.2.2.2.2.2.1 with q | ⟨k2, c2, q1, q2, q3, q4, q5⟩
  · cases q
  · obtain rfl : k = k2 := Option.some.inj q1
    refine h.far (fun i hi => mput_ne (by omega) (by omega)) (fun _ _ => rfl) rfl rfl rfl rfl rfl ?_ (Or.inr ⟨k, c, rfl, q2, q3, mput_mput _ _ _ _, hc, ha⟩)
    rcases h.2.2.2.2.1 with z | ⟨k3, c3, z1, z2, z3, z4⟩
    · exact Or.inl z
    · have hne : k ≠ k3 := fun z => q3 (by rw [z]; exact z2)
      exact Or.inr ⟨k3, c3, z1, z2, z3, mput_keep z4 (fun i a b => mput_ne (by omega) (by omega))⟩

set_option maxHeartbeats 1000000 in
set_option maxRecDepth 100000 in
theorem y_image_k (l : Launch) (G : az_Gh) (d : Nat) (sh : List az_Sh) (sg : Nat → Nat → Int32) (la : Nat → Nat → Int64) (g : GGM) (σ : SGM) (k : Nat) (tr : Option Nat) (hS : RS sh (some k) tr) (hR : RX g sg la σ (some k) tr) (hW : WF σ) : AM l G (d + 32) mX8_image [.ref 60] (sh, sg, la) 0 0 (RQ sh g (some k) tr (.int (q_image σ).1) (q_image σ).2) := by
  refine az_am knX8_image (Nat.le_of_ble_eq_true rfl) rfl (fun Post hP => ?_)
  show AW l G mX8_image (d + 32) (az_F G Post) 0 0 0 [some (.ref 60)] [] (sh, sg, la)
  have hM := hS.1
  rcases hR.2.2.2.2.1 with z | ⟨k3, c, z1, z2, z3, z4⟩
  · exact absurd z.2 (by intro q; cases q)
  obtain rfl : k = k3 := Option.some.inj z2
  have hK := hS.2.1 k rfl
  have hc := hW.2.1 c z1
  refine A_aload_n dX8_image_0 rfl rfl ?_
  refine B_getR dX8_image_1 flX8_359 (hM 0 _ rfl) rfl ?_
  refine A_ifnonnull (tgt := 18) dX8_image_4 rfl ?_
  refine A_aload_n dX8_image_18 rfl rfl ?_
  refine B_getR dX8_image_19 flX8_359 (hM 0 _ rfl) rfl ?_
  refine A_aload_n dX8_image_22 rfl rfl ?_
  refine A_callV (n := 0) dX8_image_23 kvX8_takeFrom mlX8_220 rfl (az_rc_obj clX8 (hK 0 _ rfl)) (r_takeFrom l G (d + 30) sh sg la k 60 none none (some k) tr c (xN σ) hK hM (by omega) z4 hR.1 (hW.1.2.2.1.trans hc.2.2.1.symm) hc.2.1 hW.1.2.1) (by omega) (Nat.le_refl _) (Nat.le_refl _) rfl (Nat.le_of_ble_eq_true rfl) (fun r S1 hp => ?_)
  obtain ⟨rfl, rfl⟩ := hp
  refine A_iconst (v := 1) dX8_image_26 (by decide) ?_
  exact A_iret dX8_image_27 rfl (hP _ _ ⟨rfl, _, _, rfl, hR.setK z3 (xN σ)⟩)
set_option maxHeartbeats 1000000 in
set_option maxRecDepth 100000 in
theorem y_back_k (l : Launch) (G : az_Gh) (d : Nat) (sh : List az_Sh) (sg : Nat → Nat → Int32) (la : Nat → Nat → Int64) (g : GGM) (σ : SGM) (k : Nat) (tr : Option Nat) (hS : RS sh (some k) tr) (hR : RX g sg la σ (some k) tr) (hW : WF σ) : AM l G (d + 32) mX8_back [.ref 60] (sh, sg, la) 0 0 (RQ sh g (some k) tr (.int (q_back σ).1) (q_back σ).2) := by
  refine az_am knX8_back (Nat.le_of_ble_eq_true rfl) rfl (fun Post hP => ?_)
  show AW l G mX8_back (d + 32) (az_F G Post) 0 0 0 [some (.ref 60), none] [] (sh, sg, la)
  have hM := hS.1
  rcases hR.2.2.2.2.1 with z | ⟨k3, c, z1, z2, z3, z4⟩
  · exact absurd z.2 (by intro q; cases q)
  obtain rfl : k = k3 := Option.some.inj z2
  have hK := hS.2.1 k rfl
  have hc := hW.2.1 c z1
  have hq : q_back σ = (1, yS (yN σ c) (zbk c 8 (xS σ))) := by unfold q_back; rw [z1]
  refine A_aload_n dX8_back_0 rfl rfl ?_
  refine B_getR dX8_back_1 flX8_359 (hM 0 _ rfl) rfl ?_
  refine A_ifnonnull (tgt := 14) dX8_back_4 rfl ?_
  refine A_aload_n dX8_back_14 rfl rfl ?_
  refine A_aload_n dX8_back_15 rfl rfl ?_
  refine B_getR dX8_back_16 flX8_359 (hM 0 _ rfl) rfl ?_
  refine A_callV (n := 0) dX8_back_19 kvX8_takeFrom mlX8_220 rfl (az_rc_obj clX8 (hM 0 _ rfl)) (r_takeFrom l G (d + 30) sh sg la 60 k (some k) tr none none (xN σ) c hM hK (by omega) hR.1 z4 (hc.2.2.1.trans hW.1.2.2.1.symm) hW.1.2.1 hc.2.1) (by omega) (Nat.le_refl _) (Nat.le_refl _) rfl (Nat.le_of_ble_eq_true rfl) (fun r S1 hp => ?_)
  obtain ⟨rfl, rfl⟩ := hp
  refine A_iconst (v := 0) dX8_back_22 (by decide) ?_
  refine A_istore_n (lo2 := [some (.ref 60), some (.int 0)]) dX8_back_23 rfl (by decide) rfl ?_
  have loop : ∀ (q i : Nat) (s1 : Nat → Nat → Int32), i + q = 8 → RX g s1 la (yS (yN σ c) (zbk c i (xS σ))) (some k) tr → AW l G mX8_back (d + 32) (az_F G Post) 0 0 24 [some (.ref 60), some (.int (nI i))] [] (sh, s1, la) := by
    intro q
    induction q with
    | zero =>
      intro i s1 hi h1
      obtain rfl : i = 8 := by omega
      refine A_iload_n dX8_back_24 rfl rfl ?_
      refine A_bipush (v := 8) dX8_back_25 (by decide) ?_
      refine A_icmp_ge (tgt := 66) dX8_back_27 rfl (fun h_1 => ?_) (fun h_1 => ?_)
      · refine A_iconst (v := 1) dX8_back_66 (by decide) ?_
        exact A_iret dX8_back_67 rfl (hP _ _ (by rw [hq]; exact ⟨rfl, _, _, rfl, h1⟩))
      · exact absurd (Int32.le_refl _) h_1
    | succ q ih =>
      intro i s1 hi h1
      refine A_iload_n dX8_back_24 rfl rfl ?_
      refine A_bipush (v := 8) dX8_back_25 (by decide) ?_
      refine A_icmp_ge (tgt := 66) dX8_back_27 rfl (fun h_1 => ?_) (fun h_1 => ?_)
      · exact absurd h_1 (nI_ge (b := 8) (by omega) (by decide))
      · skip
        have ht := h1.sh (s := i) (by omega)
        have hx : xS (yS (yN σ c) (zbk c i (xS σ))) i = xS σ i := zbk_at c (xS σ) i
        rw [hx] at ht
        have hf := hW.2.2.2 i (by omega)
        refine A_aload_n dX8_back_30 rfl rfl ?_
        refine B_getR dX8_back_31 flX8_7 (hM 0 _ rfl) rfl ?_
        refine A_iload_n dX8_back_34 rfl rfl ?_
        refine B_iald (i := i) dX8_back_35 (hM 1 _ rfl) (by decide) rfl (by omega) ?_
        refine A_iconst (v := 2) dX8_back_36 (by decide) ?_
        have nxt : ∀ s2, RX g s2 la (yS (yN σ c) (zbk c (i + 1) (xS σ))) (some k) tr → AW l G mX8_back (d + 32) (az_F G Post) 0 0 60 [some (.ref 60), some (.int (nI i))] [] (sh, s2, la) := by
          intro s2 h2
          refine A_iinc (v := nI (i + 1)) (lo2 := [some (.ref 60), some (.int (nI (i + 1)))]) dX8_back_60 rfl (nI_1 i) (by decide) rfl ?_
          refine A_goto (tgt := 24) dX8_back_63 rfl ?_
          exact ih (i + 1) s2 (by omega) h2
        refine A_icmp_ne (tgt := 60) dX8_back_37 rfl (fun h_2 => ?_) (fun h_2 => ?_)
        · have hn : fSh (xS σ i) = -1 := Decidable.byContradiction (fun w => h_2 (ht.1.trans (if_neg w)))
          exact nxt s1 (by rw [← zbk_n (Or.inl hn)]; exact h1)
        · skip
          have h3 : ¬ fSh (xS σ i) = -1 := by
            intro w
            have w2 := ht.1
            rw [if_pos w] at w2
            have w3 := w2.symm.trans (h_2 : s1 61 i = 2)
            by_cases w4 : fSo (xS σ i) = -1
            · rw [if_pos w4] at w3; exact absurd w3 (by decide)
            · rw [if_neg w4] at w3; exact absurd w3 (by decide)
          obtain ⟨p, hp, ep⟩ := hf.2.2.2.2.resolve_left h3
          have h0 : (0 : Int32) ≤ fSh (xS σ i) := by rw [ep]; exact nI_pos' (by have := hW.1.1.1.2; omega)
          refine A_aload_n dX8_back_40 rfl rfl ?_
          refine B_getR dX8_back_41 flX8_28 (hM 0 _ rfl) rfl ?_
          refine A_iload_n dX8_back_44 rfl rfl ?_
          refine B_iald (i := i) dX8_back_45 (hM 14 _ rfl) (by decide) rfl (by omega) ?_
          refine B_top (ht.2.2.1 h3) ?_
          refine A_aload_n dX8_back_46 rfl rfl ?_
          refine B_getV (cPp c) dX8_back_47 flX8_88 (hM 0 _ rfl) rfl ((congrFun (congrFun h1.1.symm 60) 14).trans (mr_14 _ _ _)) ?_
          refine A_icmp_lt (tgt := 60) dX8_back_50 rfl (fun h_3 => ?_) (fun h_3 => ?_)
          · exact nxt s1 (by rw [← zbk_n (Or.inr ⟨h0, h_3⟩)]; exact h1)
          · skip
            refine A_aload_n dX8_back_53 rfl rfl ?_
            refine B_getR dX8_back_54 flX8_7 (hM 0 _ rfl) rfl ?_
            refine A_iload_n dX8_back_57 rfl rfl ?_
            refine A_iconst (v := 0) dX8_back_58 (by decide) ?_
            refine B_iast (i := i) dX8_back_59 (hM 1 _ rfl) (by decide) rfl (by omega) ?_
            refine nxt _ ?_
            rw [← zbk_y h3 (fun w => h_3 w.2)]
            refine h1.setS (s := i) (f := (-1, 0, -1, fEl (xS σ i))) (fun k2 a _ _ _ => az_w_ne a) (fun k2 j a b => ?_) (fun _ _ _ => rfl) (by omega) ⟨?_, fun w => absurd rfl w, fun w => absurd rfl w, ht.2.2.2⟩
            · by_cases q2 : k2 = 61
              · subst q2; exact az_w_nj a
              · rw [az_w_ne q2]
            · exact az_w_at _ _ _ _
  refine loop 8 0 _ rfl ?_
  rw [zbk_0]
  exact hR.fin (sC.rf sg) c
set_option maxHeartbeats 1000000 in
set_option maxRecDepth 100000 in
theorem y_back_0 (l : Launch) (G : az_Gh) (d : Nat) (sh : List az_Sh) (sg : Nat → Nat → Int32) (la : Nat → Nat → Int64) (g : GGM) (σ : SGM) (tr : Option Nat) (hS : RS sh none tr) (hR : RX g sg la σ none tr) : AM l G (d + 32) mX8_back [.ref 60] (sh, sg, la) 0 0 (RQ sh g none tr (.int (q_back σ).1) (q_back σ).2) := by
  refine az_am knX8_back (Nat.le_of_ble_eq_true rfl) rfl (fun Post hP => ?_)
  show AW l G mX8_back (d + 32) (az_F G Post) 0 0 0 [some (.ref 60), none] [] (sh, sg, la)
  have hM := hS.1
  have hq : q_back σ = qr σ (-5) := by
    rcases hR.2.2.2.2.1 with z | ⟨k3, c, z1, z2, z3, z4⟩
    · unfold q_back; rw [z.1]
    · cases z2
  refine A_aload_n dX8_back_0 rfl rfl ?_
  refine B_getN dX8_back_1 flX8_359 (hM 0 _ rfl) rfl ?_
  refine A_ifnonnullN dX8_back_4 ?_
  refine A_aload_n dX8_back_7 rfl rfl ?_
  refine A_bipush (v := (-5)) dX8_back_8 (by decide) ?_
  refine A_callV (n := 0) dX8_back_10 kvX8_refuse mlX8_101 rfl (az_rc_obj clX8 (hM 0 _ rfl)) (c_X8_refuse l G (d + 4) sh sg la none tr (-5) 3 hM (by decide) (by decide)) (by omega) (Nat.le_refl _) (Nat.le_refl _) rfl (Nat.le_of_ble_eq_true rfl) (fun r S1 hp => ?_)
  obtain ⟨rfl, rfl⟩ := hp
  exact A_iret dX8_back_13 rfl (hP _ _ (RQ_i hq (hR.ref (k := 3) (by decide))))
