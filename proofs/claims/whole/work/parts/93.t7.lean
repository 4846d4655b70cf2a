theorem zrd_go {T : Nat → Int32} {m f i e : Nat} {c : CT} (h : (zstm T m e c).1 = true) : ((zst3 T m (znx T m (zstm T m e c).2.1)).1 = 0 → zrd T m (f + 1) i e c = (nI i, (zstm T m e c).2.2)) ∧ (¬ (zst3 T m (znx T m (zstm T m e c).2.1)).1 = 0 → ¬ (zst3 T m (znx T m (zstm T m e c).2.1)).1 = 3 → zrd T m (f + 1) i e c = (-20 - nI (zss T m (znx T m (zstm T m e c).2.1)), (zstm T m e c).2.2)) ∧ (¬ (zst3 T m (znx T m (zstm T m e c).2.1)).1 = 0 → (zst3 T m (znx T m (zstm T m e c).2.1)).1 = 3 → zrd T m (f + 1) i e c = zrd T m f (i + 1) (znx T m (znx T m (zstm T m e c).2.1)) (zstm T m e c).2.2) := ⟨zrd_2 h, zrd_3 h, zrd_4 h⟩
def RD (sh : List az_Sh) (u : Nat → Nat → Int32) (la : Nat → Nat → Int64) (T : Nat → Int32) (m : Nat) (c : CT) (r1 : Option Value) (S1 : List az_Sh × (Nat → Nat → Int32) × (Nat → Nat → Int64)) : Prop := ∃ v a t f g, sC u v ∧ v 75 = T ∧ v 60 7 = nI m ∧ S1 = (sh, mput (mTk v a t f g) 60 (zrd T m 250 1 0 c).2, la) ∧ ((r1 = some (.int 1) ∧ ∃ k, k ≤ 250 ∧ v 60 29 = nI k ∧ (zrd T m 250 1 0 c).1 = nI k) ∨ (r1 = some (.int 0) ∧ ∃ k, k ≤ 250 ∧ v 60 27 = nI k ∧ (zrd T m 250 1 0 c).1 = -20 - nI k))
set_option maxHeartbeats 1000000 in
set_option maxRecDepth 100000 in
theorem r_readAll (l : Launch) (G : az_Gh) (d : Nat) (sh : List az_Sh) (u : Nat → Nat → Int32) (la : Nat → Nat → Int64) (kp tr : Option Nat) (c : CT) (T : Nat → Int32) (m : Nat) (hM : az_at sh 60 (lyM 60 kp tr)) (hO : cOk c) (hT : u 75 = T) (hm : u 60 7 = nI m) (hm2 : m ≤ 250) : AM l G (d + 7) mX8_readAll [.ref 60] (sh, mput u 60 c, la) 0 0 (RD sh u la T m c) := by
  refine az_am knX8_readAll (Nat.le_of_ble_eq_true rfl) rfl (fun Post hP => ?_)
  show AW l G mX8_readAll (d + 7) (az_F G Post) 0 0 0 [some (.ref 60)] [] (sh, mput u 60 c, la)
  have loop : ∀ (q i E : Nat) (v : Nat → Nat → Int32) (c1 : CT), i + q = 250 → E ≤ m → cOk c1 → 2 * i ≤ E + 1 → sC u v → v 75 = T → v 60 7 = nI m → v 60 29 = nI i → (((zst3 T m E).1 = 0 → zrd T m 250 1 0 c = (nI i, c1)) ∧ (¬ (zst3 T m E).1 = 0 → ¬ (zst3 T m E).1 = 3 → zrd T m 250 1 0 c = (-20 - nI (zss T m E), c1)) ∧ (¬ (zst3 T m E).1 = 0 → (zst3 T m E).1 = 3 → zrd T m 250 1 0 c = zrd T m (250 - i) (i + 1) (znx T m E) c1)) → AW l G mX8_readAll (d + 7) (az_F G Post) 0 0 23 [some (.ref 60)] [] (sh, mput (mTk v (nI (znx T m E)) (zst3 T m E).1 (nI (zss T m E)) (zfg T m E)) 60 c1, la) := by
    intro q
    induction q with
    | zero =>
      intro i E v c1 hi hE hO1 h2i
      exfalso; omega
    | succ q ih =>
      intro i E v c1 hi hE hO1 h2i hs hTv hmv h29 hz
      refine A_aload_n dX8_readAll_23 rfl rfl ?_
      refine B_getV ((zst3 T m E).1) dX8_readAll_24 flX8_156 (hM 0 _ rfl) rfl ((mput_f rfl).trans (mTk_24 _ _ _ _ _)) ?_
      refine A_if_eq (tgt := 69) dX8_readAll_27 rfl (fun h_1 => ?_) (fun h_1 => ?_)
      · skip
        have hq := hz.1 h_1
        refine A_iconst (v := 1) dX8_readAll_69 (by decide) ?_
        exact A_zret dX8_readAll_70 rfl rfl (hP _ _ ⟨v, _, _, _, _, hs, hTv, hmv, by rw [hq], Or.inl ⟨rfl, i, by omega, h29, by rw [hq]⟩⟩)
      · skip
        refine A_aload_n dX8_readAll_30 rfl rfl ?_
        refine B_getV ((zst3 T m E).1) dX8_readAll_31 flX8_156 (hM 0 _ rfl) rfl ((mput_f rfl).trans (mTk_24 _ _ _ _ _)) ?_
        refine A_iconst (v := 3) dX8_readAll_34 (by decide) ?_
        refine A_icmp_eq (tgt := 43) dX8_readAll_35 rfl (fun h_2 => ?_) (fun h_2 => ?_)
        · skip
          have hq := hz.2.2 h_1 h_2
          have hsg := zst3_sg hE h_2
          have hn := znx_le (T := T) hE
          have hel := zstm_el (T := T) (c := c1) hn
          have hle2 := znx_le (T := T) hel.1
          refine A_aload_n dX8_readAll_43 rfl rfl ?_
          refine A_callV (n := 0) dX8_readAll_44 kvX8_look mlX8_183 rfl (az_rc_obj clX8 (hM 0 _ rfl)) (r_look l G (d + 5) sh v la kp tr c1 T m (znx T m E) _ _ _ hM hO1 hTv hmv hm2 hn) (by omega) (Nat.le_refl _) (Nat.le_refl _) rfl (Nat.le_of_ble_eq_true rfl) (fun r S1 hp => ?_)
          obtain ⟨rfl, rfl⟩ := hp
          show AW l G mX8_readAll (d + 7) (az_F G Post) 0 0 47 [some (.ref 60)] [] (sh, mput (mTk v (nI (znx T m (znx T m E))) (zst3 T m (znx T m E)).1 (nI (zss T m (znx T m E))) (zfg T m (znx T m E))) 60 c1, la)
          refine A_aload_n dX8_readAll_47 rfl rfl ?_
          refine A_callV (n := 0) dX8_readAll_48 kvX8_statement mlX8_212 rfl (az_rc_obj clX8 (hM 0 _ rfl)) (r_statement l G d sh v la kp tr c1 T m (znx T m E) hM hTv hmv hm2 hn hO1) (by omega) (Nat.le_refl _) (Nat.le_refl _) rfl (Nat.le_of_ble_eq_true rfl) (fun r S1 hp => ?_)
          obtain ⟨rfl, w, a, t, f, g, hsw, hTw, hmw, h29w, rfl, hok, hbad⟩ := hp
          show AW l G mX8_readAll (d + 7) (az_F G Post) 0 0 51 [some (.ref 60)] [.int (b2i ((zstm T m (znx T m E) c1).1 = true))] (sh, mput (mTk w a t f g) 60 (zstm T m (znx T m E) c1).2.2, la)
          refine A_if_ne (tgt := 56) dX8_readAll_51 rfl (fun h_3 => ?_) (fun h_3 => ?_)
          · skip
            have h_3' := b2i_n.mp h_3
            have hgo := hel.2 h_3'
            refine B_sg (congrArg (fun z => mput z 60 (zstm T m (znx T m E) c1).2.2) (hok h_3')) ?_
            refine A_aload_n dX8_readAll_56 rfl rfl ?_
            refine A_dup dX8_readAll_57 rfl ?_
            refine B_getV (nI i) dX8_readAll_58 flX8_209 (hM 0 _ rfl) rfl ((mput_f rfl).trans ((mTk_o (by decide)).trans (h29w.trans h29))) ?_
            refine A_iconst (v := 1) dX8_readAll_61 (by decide) ?_
            refine A_iadd dX8_readAll_62 ?_
            refine B_top (nI_1 i) ?_
            refine B_putI dX8_readAll_63 fwX8_209 (hM 0 _ rfl) rfl ?_
            refine B_sg (show _ = (mput (mTk (az_w w 60 29 (nI (i + 1))) (nI (znx T m (znx T m (zstm T m (znx T m E) c1).2.1))) (zst3 T m (znx T m (zstm T m (znx T m E) c1).2.1)).1 (nI (zss T m (znx T m (zstm T m (znx T m E) c1).2.1))) (zfg T m (znx T m (zstm T m (znx T m E) c1).2.1))) 60 (zstm T m (znx T m E) c1).2.2) from (mput_wj rfl).trans (congrArg (fun z => mput z 60 (zstm T m (znx T m E) c1).2.2) (mTk_j (by decide)))) ?_
            refine A_goto (tgt := 23) dX8_readAll_66 rfl ?_
            have hg := zrd_go (f := 249 - i) (i := i + 1) h_3'
            rw [show 249 - i + 1 = 250 - i by omega, ← hq] at hg
            exact ih (i + 1) _ _ _ (by omega) hle2 (cOk_stm hO1) (by omega) ((hs.tr hsw).w (j := 29) rfl _) ((az_w_ne (by decide)).trans hTw) ((az_w_nj (by decide)).trans hmw) (az_w_at _ _ _ _) (by rw [show 250 - (i + 1) = 249 - i by omega]; exact hg)
          · skip
            have h_3' := b2i_0.mp h_3
            have hx := hq.trans ((congrArg (fun z => zrd T m z (i + 1) (znx T m E) c1) (show 250 - i = 249 - i + 1 by omega)).trans (zrd_1 h_3'))
            have hle3 := zst3_le (T := T) (zstm_el (T := T) (c := c1) hn).1
            refine A_iconst (v := 0) dX8_readAll_54 (by decide) ?_
            exact A_zret dX8_readAll_55 rfl rfl (hP _ _ ⟨w, _, _, _, _, hs.tr hsw, hTw, hmw, by rw [hx], Or.inr ⟨rfl, _, by omega, hbad (Bool.eq_false_iff.mpr h_3'), by rw [hx]⟩⟩)
        · skip
          have hq := hz.2.1 h_1 h_2
          have hle3 := zst3_le (T := T) hE
          refine A_aload_n dX8_readAll_38 rfl rfl ?_
          refine A_callV (n := 0) dX8_readAll_39 kvX8_wrong mlX8_179 rfl (az_rc_obj clX8 (hM 0 _ rfl)) (r_wrong l G (d + 6) sh v la kp tr c1 (nI (znx T m E)) (zst3 T m E).1 (nI (zss T m E)) (zfg T m E) hM) (by omega) (Nat.le_refl _) (Nat.le_refl _) rfl (Nat.le_of_ble_eq_true rfl) (fun r S1 hp => ?_)
          obtain ⟨rfl, rfl⟩ := hp
          show AW l G mX8_readAll (d + 7) (az_F G Post) 0 0 42 [some (.ref 60)] [.int 0] (sh, mput (mTk (az_w v 60 27 (nI (zss T m E))) (nI (znx T m E)) (zst3 T m E).1 (nI (zss T m E)) (zfg T m E)) 60 c1, la)
          exact A_zret dX8_readAll_42 rfl rfl (hP _ _ ⟨az_w v 60 27 (nI (zss T m E)), _, _, _, _, hs.w (j := 27) rfl _, (az_w_ne (by decide)).trans hTv, (az_w_nj (by decide)).trans hmv, by rw [hq], Or.inr ⟨rfl, _, by omega, az_w_at _ _ _ _, by rw [hq]⟩⟩)
  refine A_aload_n dX8_readAll_0 rfl rfl ?_
  refine A_iconst (v := 1) dX8_readAll_1 (by decide) ?_
  refine B_putI dX8_readAll_2 fwX8_209 (hM 0 _ rfl) rfl ?_
  refine B_sg (mput_wj rfl) ?_
  refine A_aload_n dX8_readAll_5 rfl rfl ?_
  refine A_iconst (v := 0) dX8_readAll_6 (by decide) ?_
  refine B_putI dX8_readAll_7 fwX8_147 (hM 0 _ rfl) rfl ?_
  refine B_sg (show _ = mput (mTk (az_w u 60 29 1) (nI 0) (az_w u 60 29 1 60 24) (az_w u 60 29 1 60 25) (az_w u 60 29 1 60 26)) 60 c from (mput_wj rfl).trans (congrArg (fun z => mput z 60 c) ((congrArg (fun z => az_w z 60 23 0) (mTk_0 (az_w u 60 29 1))).trans (mTk_w23 _ _ _ _ _ _)))) ?_
  have hT0 : (az_w u 60 29 1) 75 = T := (az_w_ne (by decide)).trans hT
  have hm0 : (az_w u 60 29 1) 60 7 = nI m := (az_w_nj (by decide)).trans hm
  refine A_aload_n dX8_readAll_10 rfl rfl ?_
  refine A_callV (n := 0) dX8_readAll_11 kvX8_look mlX8_183 rfl (az_rc_obj clX8 (hM 0 _ rfl)) (r_look l G (d + 5) sh (az_w u 60 29 1) la kp tr c T m 0 _ _ _ hM hO hT0 hm0 hm2 (Nat.zero_le m)) (by omega) (Nat.le_refl _) (Nat.le_refl _) rfl (Nat.le_of_ble_eq_true rfl) (fun r S1 hp => ?_)
  obtain ⟨rfl, rfl⟩ := hp
  show AW l G mX8_readAll (d + 7) (az_F G Post) 0 0 14 [some (.ref 60)] [] (sh, mput (mTk (az_w u 60 29 1) (nI (znx T m 0)) (zst3 T m 0).1 (nI (zss T m 0)) (zfg T m 0)) 60 c, la)
  refine A_aload_n dX8_readAll_14 rfl rfl ?_
  refine A_callV (n := 0) dX8_readAll_15 kvX8_statement mlX8_212 rfl (az_rc_obj clX8 (hM 0 _ rfl)) (r_statement l G d sh (az_w u 60 29 1) la kp tr c T m 0 hM hT0 hm0 hm2 (Nat.zero_le m) hO) (by omega) (Nat.le_refl _) (Nat.le_refl _) rfl (Nat.le_of_ble_eq_true rfl) (fun r S1 hp => ?_)
  obtain ⟨rfl, w, a, t, f, g, hsw, hTw, hmw, h29w, rfl, hok, hbad⟩ := hp
  show AW l G mX8_readAll (d + 7) (az_F G Post) 0 0 18 [some (.ref 60)] [.int (b2i ((zstm T m 0 c).1 = true))] (sh, mput (mTk w a t f g) 60 (zstm T m 0 c).2.2, la)
  have hel := zstm_el (T := T) (c := c) (Nat.zero_le m)
  have hle2 := znx_le (T := T) hel.1
  refine A_if_ne (tgt := 23) dX8_readAll_18 rfl (fun h_3 => ?_) (fun h_3 => ?_)
  · skip
    have h_3' := b2i_n.mp h_3
    have hgo := hel.2 h_3'
    refine B_sg (congrArg (fun z => mput z 60 (zstm T m 0 c).2.2) (hok h_3')) ?_
    exact loop 249 1 _ _ _ rfl hle2 (cOk_stm hO) (by omega) (((sC.rf u).w (j := 29) rfl _).tr hsw) hTw hmw (h29w.trans (az_w_at _ _ _ _)) (zrd_go h_3')
  · skip
    have h_3' := b2i_0.mp h_3
    have hx := zrd_1 (f := 249) (i := 1) h_3'
    have hle3 := zst3_le (T := T) (zstm_el (T := T) (c := c) (Nat.zero_le m)).1
    refine A_iconst (v := 0) dX8_readAll_21 (by decide) ?_
    exact A_zret dX8_readAll_22 rfl rfl (hP _ _ ⟨w, _, _, _, _, ((sC.rf u).w (j := 29) rfl _).tr hsw, hTw, hmw, by rw [hx], Or.inr ⟨rfl, _, by omega, hbad (Bool.eq_false_iff.mpr h_3'), by rw [hx]⟩⟩)
