theorem zch_ne : ∀ j, j < 7 → ∀ k, k < 7 → j ≠ k → zln j ≠ zln k ∨ zch j 0 ≠ zch k 0 ∨ zch j 1 ≠ zch k 1 := by decide
theorem zln_ge : ∀ j, j < 7 → 3 ≤ zln j := by decide
theorem zwd_i {T : Nat → Int32} {t : Int32} {s e k : Nat} (h : zwd T t s e k = true) : e - s = zln k ∧ ∀ i, i < zln k → T (s + i) = zch k i := by
  unfold zwd at h
  have h1 := Bool.and_eq_true_iff.mp h
  have h2 := Bool.and_eq_true_iff.mp h1.2
  exact ⟨of_decide_eq_true h2.1, fun i hi => of_decide_eq_true (zallb_i.mp h2.2 i hi)⟩
theorem zwk_ne {T : Nat → Int32} {m e j k : Nat} (hj : j < 7) (hk : k < 7) (hjk : j ≠ k) (h : zwk T m e j = true) : zwk T m e k = false := by
  refine Bool.eq_false_iff.mpr (fun q => ?_)
  obtain ⟨a1, a2⟩ := zwd_i h
  obtain ⟨b1, b2⟩ := zwd_i q
  have l1 := zln_ge j hj
  have l2 := zln_ge k hk
  rcases zch_ne j hj k hk hjk with z | z | z
  · exact z (a1.symm.trans b1)
  · exact z ((a2 0 (by omega)).symm.trans (b2 0 (by omega)))
  · exact z ((a2 1 (by omega)).symm.trans (b2 1 (by omega)))
section ZST
variable {T : Nat → Int32} {m e : Nat} {c : CT}
theorem zstm_p (h : zwk T m e 0 = true) (h7 : cN c < 8) : zstm T m e c = zper T m (znx T m e) c := by unfold zstm; rw [if_pos h, if_pos h7]
theorem zstm_q (h : zwk T m e 0 = true) (h7 : ¬ cN c < 8) : zstm T m e c = (false, e, c) := by unfold zstm; rw [if_pos h, if_neg h7]
theorem zstm_k1 (h : zwk T m e 1 = true) : zstm T m e c = ((zpor T m (znx T m e) (cFe c) (cN c) 40).1, (zpor T m (znx T m e) (cFe c) (cN c) 40).2.1, sFe c (zpor T m (znx T m e) (cFe c) (cN c) 40).2.2) := by
  unfold zstm; rw [if_neg (by rw [zwk_ne (k := 0) (by decide) (by decide) (by decide) h]; decide), if_pos h]
theorem zstm_k2 (h : zwk T m e 2 = true) : zstm T m e c = ((zpor T m (znx T m e) (cBr c) (cN c) 9).1, (zpor T m (znx T m e) (cBr c) (cN c) 9).2.1, sBr c (zpor T m (znx T m e) (cBr c) (cN c) 9).2.2) := by
  unfold zstm; rw [if_neg (by rw [zwk_ne (k := 0) (by decide) (by decide) (by decide) h]; decide), if_neg (by rw [zwk_ne (k := 1) (by decide) (by decide) (by decide) h]; decide), if_pos h]
theorem zstm_k3 (h : zwk T m e 3 = true) : zstm T m e c = zchg T m e c 0 := by
  unfold zstm; rw [if_neg (by rw [zwk_ne (k := 0) (by decide) (by decide) (by decide) h]; decide), if_neg (by rw [zwk_ne (k := 1) (by decide) (by decide) (by decide) h]; decide), if_neg (by rw [zwk_ne (k := 2) (by decide) (by decide) (by decide) h]; decide), if_pos h]
theorem zstm_k4 (h : zwk T m e 4 = true) : zstm T m e c = zchg T m e c 1 := by
  unfold zstm; rw [if_neg (by rw [zwk_ne (k := 0) (by decide) (by decide) (by decide) h]; decide), if_neg (by rw [zwk_ne (k := 1) (by decide) (by decide) (by decide) h]; decide), if_neg (by rw [zwk_ne (k := 2) (by decide) (by decide) (by decide) h]; decide), if_neg (by rw [zwk_ne (k := 3) (by decide) (by decide) (by decide) h]; decide), if_pos h]
theorem zstm_k5 (h : zwk T m e 5 = true) : zstm T m e c = zchg T m e c 2 := by
  unfold zstm; rw [if_neg (by rw [zwk_ne (k := 0) (by decide) (by decide) (by decide) h]; decide), if_neg (by rw [zwk_ne (k := 1) (by decide) (by decide) (by decide) h]; decide), if_neg (by rw [zwk_ne (k := 2) (by decide) (by decide) (by decide) h]; decide), if_neg (by rw [zwk_ne (k := 3) (by decide) (by decide) (by decide) h]; decide), if_neg (by rw [zwk_ne (k := 4) (by decide) (by decide) (by decide) h]; decide), if_pos h]
theorem zstm_k6 (h : zwk T m e 6 = true) : zstm T m e c = zchg T m e c 3 := by
  unfold zstm; rw [if_neg (by rw [zwk_ne (k := 0) (by decide) (by decide) (by decide) h]; decide), if_neg (by rw [zwk_ne (k := 1) (by decide) (by decide) (by decide) h]; decide), if_neg (by rw [zwk_ne (k := 2) (by decide) (by decide) (by decide) h]; decide), if_neg (by rw [zwk_ne (k := 3) (by decide) (by decide) (by decide) h]; decide), if_neg (by rw [zwk_ne (k := 4) (by decide) (by decide) (by decide) h]; decide), if_neg (by rw [zwk_ne (k := 5) (by decide) (by decide) (by decide) h]; decide), if_pos h]
theorem zstm_no (h0 : ¬ zwk T m e 0 = true) (h1 : ¬ zwk T m e 1 = true) (h2 : ¬ zwk T m e 2 = true) (h3 : ¬ zwk T m e 3 = true) (h4 : ¬ zwk T m e 4 = true) (h5 : ¬ zwk T m e 5 = true) (h6 : ¬ zwk T m e 6 = true) : zstm T m e c = (false, e, c) := by
  unfold zstm; rw [if_neg h0, if_neg h1, if_neg h2, if_neg h3, if_neg h4, if_neg h5, if_neg h6]
theorem zchg_n {w : Nat} (h : znum T m (znx T m e) (zmt w) = -1) : zchg T m e c w = (false, znx T m e, c) := if_pos h
theorem zchg_y {w : Nat} (h : ¬ znum T m (znx T m e) (zmt w) = -1) : zchg T m e c w = (true, znx T m e, zset c w (znum T m (znx T m e) (zmt w))) := if_neg h
end ZST
theorem s_i0 (c : CT) : sAir c (cAir c) = c ∧ sFall c (cFall c) = c ∧ sDay c (cDay c) = c ∧ sCoal c (cCoal c) = c := by
  refine ⟨?_, ?_, ?_, ?_⟩ <;> simp only [sAir, sFall, sDay, sCoal, cPp, cAir, cFall, cDay, cWin, cCoal, cSeed, cLov, cAway, cKd, cAa, cPr, cBr, cFe]
set_option maxHeartbeats 1000000 in
set_option maxRecDepth 100000 in
theorem r_statement (l : Launch) (G : az_Gh) (d : Nat) (sh : List az_Sh) (u : Nat → Nat → Int32) (la : Nat → Nat → Int64) (kp tr : Option Nat) (c : CT) (T : Nat → Int32) (m e : Nat) (hM : az_at sh 60 (lyM 60 kp tr)) (hT : u 75 = T) (hm : u 60 7 = nI m) (hm2 : m ≤ 250) (he : e ≤ m) (hO : cOk c) : AM l G (d + 6) mX8_statement [.ref 60] (sh, (mput (mTk u (nI (znx T m e)) (zst3 T m e).1 (nI (zss T m e)) (zfg T m e)) 60 c), la) 0 0 (fun r1 S1 => r1 = some (.int (b2i ((zstm T m e c).1 = true))) ∧ ∃ v a t f g, sC u v ∧ v 75 = T ∧ v 60 7 = nI m ∧ v 60 29 = u 60 29 ∧ S1 = (sh, mput (mTk v a t f g) 60 (zstm T m e c).2.2, la) ∧ ((zstm T m e c).1 = true → mTk v a t f g = mTk v (nI (znx T m (znx T m (zstm T m e c).2.1))) (zst3 T m (znx T m (zstm T m e c).2.1)).1 (nI (zss T m (znx T m (zstm T m e c).2.1))) (zfg T m (znx T m (zstm T m e c).2.1))) ∧ ((zstm T m e c).1 = false → v 60 27 = nI (zss T m (zstm T m e c).2.1))) := by
  refine az_am knX8_statement (Nat.le_of_ble_eq_true rfl) rfl (fun Post hP => ?_)
  show AW l G mX8_statement (d + 6) (az_F G Post) 0 0 0 [some (.ref 60), none] [] (sh, (mput (mTk u (nI (znx T m e)) (zst3 T m e).1 (nI (zss T m e)) (zfg T m e)) 60 c), la)
  have h8 := hO.2
  refine A_aload_n dX8_statement_0 rfl rfl ?_
  refine A_ldcS (n := 0) dX8_statement_1 (by decide) ?_
  refine A_callV (n := 0) dX8_statement_3 kvX8_isWord mlX8_191 rfl (az_rc_obj clX8 (hM 0 _ rfl)) (r_isWord l G (d + 1) sh u la kp tr c T m e 0 hM hT hm hm2 he (by decide)) (by omega) (Nat.le_refl _) (Nat.le_refl _) rfl (Nat.le_of_ble_eq_true rfl) (fun r S1 hp => ?_)
  obtain ⟨rfl, rfl⟩ := hp
  show AW l G mX8_statement (d + 6) (az_F G Post) 0 0 6 [some (.ref 60), none] [.int (b2i (zwk T m e 0 = true))] (sh, (mput (mTk u (nI (znx T m e)) ((zst3 T m e).1) (nI (zss T m e)) (zfg T m e)) 60 c), la)
  refine A_if_eq (tgt := 83) dX8_statement_6 rfl (fun h_1 => ?_) (fun h_1 => ?_)
  · skip
    have h_1' := b2i_0.mp h_1
    refine A_aload_n dX8_statement_83 rfl rfl ?_
    refine A_ldcS (n := 1) dX8_statement_84 (by decide) ?_
    refine A_callV (n := 0) dX8_statement_86 kvX8_isWord mlX8_191 rfl (az_rc_obj clX8 (hM 0 _ rfl)) (r_isWord l G (d + 1) sh u la kp tr c T m e 1 hM hT hm hm2 he (by decide)) (by omega) (Nat.le_refl _) (Nat.le_refl _) rfl (Nat.le_of_ble_eq_true rfl) (fun r S1 hp => ?_)
    obtain ⟨rfl, rfl⟩ := hp
    show AW l G mX8_statement (d + 6) (az_F G Post) 0 0 89 [some (.ref 60), none] [.int (b2i (zwk T m e 1 = true))] (sh, (mput (mTk u (nI (znx T m e)) ((zst3 T m e).1) (nI (zss T m e)) (zfg T m e)) 60 c), la)
    refine A_if_ne (tgt := 101) dX8_statement_89 rfl (fun h_2 => ?_) (fun h_2 => ?_)
    · skip
      have h_2' := b2i_n.mp h_2
      refine A_aload_n dX8_statement_101 rfl rfl ?_
      refine A_callV (n := 0) dX8_statement_102 kvX8_tellsOne mlX8_202 rfl (az_rc_obj clX8 (hM 0 _ rfl)) (r_tellsOne_F l G d sh u la kp tr c T m e hM hT hm hm2 he hO (zwk_ne (k := 2) (by decide) (by decide) (by decide) h_2')) (by omega) (Nat.le_refl _) (Nat.le_refl _) rfl (Nat.le_of_ble_eq_true rfl) (fun r S1 hp => ?_)
      obtain ⟨rfl, v, a, t, f, g, hsv, hTv, hmv, h29, rfl, hok, hbad⟩ := hp
      show AW l G mX8_statement (d + 6) (az_F G Post) 0 0 105 [some (.ref 60), none] [.int (b2i ((zpor T m (znx T m e) (cFe c) (cN c) 40).1 = true))] (sh, (mput (mTk v a t f g) 60 (sFe c (zpor T m (znx T m e) (cFe c) (cN c) 40).2.2)), la)
      have hz := zstm_k1 (c := c) h_2'
      refine A_zret dX8_statement_105 rfl (narrow_b2i _) (hP _ _ ⟨by rw [hz], v, a, t, f, g, hsv, hTv, hmv, h29, by rw [hz], (fun q => by rw [hz] at q ⊢; exact hok q), (fun q => by rw [hz] at q ⊢; exact hbad q)⟩)
    · skip
      have h_2' := b2i_0.mp h_2
      refine A_aload_n dX8_statement_92 rfl rfl ?_
      refine A_ldcS (n := 2) dX8_statement_93 (by decide) ?_
      refine A_callV (n := 0) dX8_statement_95 kvX8_isWord mlX8_191 rfl (az_rc_obj clX8 (hM 0 _ rfl)) (r_isWord l G (d + 1) sh u la kp tr c T m e 2 hM hT hm hm2 he (by decide)) (by omega) (Nat.le_refl _) (Nat.le_refl _) rfl (Nat.le_of_ble_eq_true rfl) (fun r S1 hp => ?_)
      obtain ⟨rfl, rfl⟩ := hp
      show AW l G mX8_statement (d + 6) (az_F G Post) 0 0 98 [some (.ref 60), none] [.int (b2i (zwk T m e 2 = true))] (sh, (mput (mTk u (nI (znx T m e)) ((zst3 T m e).1) (nI (zss T m e)) (zfg T m e)) 60 c), la)
      refine A_if_eq (tgt := 106) dX8_statement_98 rfl (fun h_3 => ?_) (fun h_3 => ?_)
      · skip
        have h_3' := b2i_0.mp h_3
        refine A_aload_n dX8_statement_106 rfl rfl ?_
        refine A_ldcS (n := 3) dX8_statement_107 (by decide) ?_
        refine A_callV (n := 0) dX8_statement_109 kvX8_isWord mlX8_191 rfl (az_rc_obj clX8 (hM 0 _ rfl)) (r_isWord l G (d + 1) sh u la kp tr c T m e 3 hM hT hm hm2 he (by decide)) (by omega) (Nat.le_refl _) (Nat.le_refl _) rfl (Nat.le_of_ble_eq_true rfl) (fun r S1 hp => ?_)
        obtain ⟨rfl, rfl⟩ := hp
        show AW l G mX8_statement (d + 6) (az_F G Post) 0 0 112 [some (.ref 60), none] [.int (b2i (zwk T m e 3 = true))] (sh, (mput (mTk u (nI (znx T m e)) ((zst3 T m e).1) (nI (zss T m e)) (zfg T m e)) 60 c), la)
        refine A_if_eq (tgt := 146) dX8_statement_112 rfl (fun h_4 => ?_) (fun h_4 => ?_)
        · skip
          have h_4' := b2i_0.mp h_4
          refine A_aload_n dX8_statement_146 rfl rfl ?_
          refine A_ldcS (n := 4) dX8_statement_147 (by decide) ?_
          refine A_callV (n := 0) dX8_statement_149 kvX8_isWord mlX8_191 rfl (az_rc_obj clX8 (hM 0 _ rfl)) (r_isWord l G (d + 1) sh u la kp tr c T m e 4 hM hT hm hm2 he (by decide)) (by omega) (Nat.le_refl _) (Nat.le_refl _) rfl (Nat.le_of_ble_eq_true rfl) (fun r S1 hp => ?_)
          obtain ⟨rfl, rfl⟩ := hp
          show AW l G mX8_statement (d + 6) (az_F G Post) 0 0 152 [some (.ref 60), none] [.int (b2i (zwk T m e 4 = true))] (sh, (mput (mTk u (nI (znx T m e)) ((zst3 T m e).1) (nI (zss T m e)) (zfg T m e)) 60 c), la)
          refine A_if_eq (tgt := 185) dX8_statement_152 rfl (fun h_5 => ?_) (fun h_5 => ?_)
          · skip
            have h_5' := b2i_0.mp h_5
            refine A_aload_n dX8_statement_185 rfl rfl ?_
            refine A_ldcS (n := 5) dX8_statement_186 (by decide) ?_
            refine A_callV (n := 0) dX8_statement_188 kvX8_isWord mlX8_191 rfl (az_rc_obj clX8 (hM 0 _ rfl)) (r_isWord l G (d + 1) sh u la kp tr c T m e 5 hM hT hm hm2 he (by decide)) (by omega) (Nat.le_refl _) (Nat.le_refl _) rfl (Nat.le_of_ble_eq_true rfl) (fun r S1 hp => ?_)
            obtain ⟨rfl, rfl⟩ := hp
            show AW l G mX8_statement (d + 6) (az_F G Post) 0 0 191 [some (.ref 60), none] [.int (b2i (zwk T m e 5 = true))] (sh, (mput (mTk u (nI (znx T m e)) ((zst3 T m e).1) (nI (zss T m e)) (zfg T m e)) 60 c), la)
            refine A_if_eq (tgt := 226) dX8_statement_191 rfl (fun h_6 => ?_) (fun h_6 => ?_)
            · skip
              have h_6' := b2i_0.mp h_6
              refine A_aload_n dX8_statement_226 rfl rfl ?_
              refine A_ldcS (n := 6) dX8_statement_227 (by decide) ?_
              refine A_callV (n := 0) dX8_statement_229 kvX8_isWord mlX8_191 rfl (az_rc_obj clX8 (hM 0 _ rfl)) (r_isWord l G (d + 1) sh u la kp tr c T m e 6 hM hT hm hm2 he (by decide)) (by omega) (Nat.le_refl _) (Nat.le_refl _) rfl (Nat.le_of_ble_eq_true rfl) (fun r S1 hp => ?_)
              obtain ⟨rfl, rfl⟩ := hp
              show AW l G mX8_statement (d + 6) (az_F G Post) 0 0 232 [some (.ref 60), none] [.int (b2i (zwk T m e 6 = true))] (sh, (mput (mTk u (nI (znx T m e)) ((zst3 T m e).1) (nI (zss T m e)) (zfg T m e)) 60 c), la)
              refine A_if_eq (tgt := 266) dX8_statement_232 rfl (fun h_7 => ?_) (fun h_7 => ?_)
              · skip
                have h_7' := b2i_0.mp h_7
                refine A_aload_n dX8_statement_266 rfl rfl ?_
                refine A_callV (n := 0) dX8_statement_267 kvX8_wrong mlX8_179 rfl (az_rc_obj clX8 (hM 0 _ rfl)) (r_wrong l G (d + 5) sh u la kp tr c (nI (znx T m e)) ((zst3 T m e).1) (nI (zss T m e)) (zfg T m e) hM) (by omega) (Nat.le_refl _) (Nat.le_refl _) rfl (Nat.le_of_ble_eq_true rfl) (fun r S1 hp => ?_)
                obtain ⟨rfl, rfl⟩ := hp
                show AW l G mX8_statement (d + 6) (az_F G Post) 0 0 270 [some (.ref 60), none] [.int 0] (sh, (mput (mTk (az_w u 60 27 (nI (zss T m e))) (nI (znx T m e)) ((zst3 T m e).1) (nI (zss T m e)) (zfg T m e)) 60 c), la)
                have hz := zstm_no (c := c) h_1' h_2' h_3' h_4' h_5' h_6' h_7'
                refine A_zret dX8_statement_270 rfl (rfl) (hP _ _ ⟨by rw [hz]; rfl, (az_w u 60 27 (nI (zss T m e))), (nI (znx T m e)), ((zst3 T m e).1), (nI (zss T m e)), (zfg T m e), ((sC.rf u).w (j := 27) rfl _), ((az_w_ne (by decide)).trans hT), ((az_w_nj (by decide)).trans hm), by rw [az_w_nj (by decide)], ?_, (fun q => by rw [hz] at q; cases q), (fun _ => by rw [hz]; exact az_w_at _ _ _ _)⟩)
                rw [hz]
              · skip
                have h_7' := b2i_n.mp h_7
                by_cases hn1 : znum T m (znx T m e) 9 = -1
                · skip
                  refine A_aload_n dX8_statement_235 rfl rfl ?_
                  refine A_iconst (v := 0) dX8_statement_236 (by decide) ?_
                  refine A_bipush (v := 9) dX8_statement_237 (by decide) ?_
                  refine A_callV (n := 0) dX8_statement_239 kvX8_tells mlX8_195 rfl (az_rc_obj clX8 (hM 0 _ rfl)) (r_tells_n l G (d + 2) sh u la kp tr c T m e 9 hM hT hm hm2 he hO (by decide) hn1) (by omega) (Nat.le_refl _) (Nat.le_refl _) rfl (Nat.le_of_ble_eq_true rfl) (fun r S1 hp => ?_)
                  obtain ⟨rfl, rfl⟩ := hp
                  show AW l G mX8_statement (d + 6) (az_F G Post) 0 0 242 [some (.ref 60), none] [.int 0] (sh, (mput (mTk (az_w u 60 27 (nI (zss T m (znx T m e)))) (nI (znx T m (znx T m e))) ((zst3 T m (znx T m e)).1) (nI (zss T m (znx T m e))) (zfg T m (znx T m e))) 60 c), la)
                  refine A_istore_n (lo2 := [some (.ref 60), some (.int 0)]) dX8_statement_242 rfl (by decide) rfl ?_
                  refine A_aload_n dX8_statement_243 rfl rfl ?_
                  refine A_iload_n dX8_statement_244 rfl rfl ?_
                  refine A_if_eq (tgt := 257) dX8_statement_245 rfl (fun h_8 => ?_) (fun h_8 => ?_)
                  · skip
                    refine A_aload_n dX8_statement_257 rfl rfl ?_
                    refine B_getV (cCoal c) dX8_statement_258 flX8_47 (hM 0 _ rfl) rfl (mr_13 _ _ _) ?_
                    refine B_putI dX8_statement_261 fwX8_47 (hM 0 _ rfl) rfl ?_
                    refine B_sg (show _ = (mput (mTk (az_w u 60 27 (nI (zss T m (znx T m e)))) (nI (znx T m (znx T m e))) ((zst3 T m (znx T m e)).1) (nI (zss T m (znx T m e))) (zfg T m (znx T m e))) 60 (sCoal c (cCoal c))) from mw_13 _ _ _ _) ?_
                    refine A_iload_n dX8_statement_264 rfl rfl ?_
                    have hz := (zstm_k6 (c := c) h_7').trans (zchg_n (w := 3) hn1)
                    refine A_zret dX8_statement_265 rfl (rfl) (hP _ _ ⟨by rw [hz]; rfl, (az_w u 60 27 (nI (zss T m (znx T m e)))), (nI (znx T m (znx T m e))), ((zst3 T m (znx T m e)).1), (nI (zss T m (znx T m e))), (zfg T m (znx T m e)), ((sC.rf u).w (j := 27) rfl _), ((az_w_ne (by decide)).trans hT), ((az_w_nj (by decide)).trans hm), by rw [az_w_nj (by decide)], ?_, (fun q => by rw [hz] at q; cases q), (fun _ => by rw [hz]; exact az_w_at _ _ _ _)⟩)
                    rw [hz, (s_i0 c).2.2.2]
                  · skip
                    exact absurd (by decide) h_8
                · skip
                  obtain ⟨v_hn1, hv_hn1, e_hn1, hl_hn1⟩ := znum_rng ((znx_le he)) hn1
                  refine A_aload_n dX8_statement_235 rfl rfl ?_
                  refine A_iconst (v := 0) dX8_statement_236 (by decide) ?_
                  refine A_bipush (v := 9) dX8_statement_237 (by decide) ?_
                  refine A_callV (n := 0) dX8_statement_239 kvX8_tells mlX8_195 rfl (az_rc_obj clX8 (hM 0 _ rfl)) (r_tells_y l G (d + 2) sh u la kp tr c T m e 9 hM hT hm hm2 he hO (by decide) hn1) (by omega) (Nat.le_refl _) (Nat.le_refl _) rfl (Nat.le_of_ble_eq_true rfl) (fun r S1 hp => ?_)
                  obtain ⟨rfl, rfl⟩ := hp
                  show AW l G mX8_statement (d + 6) (az_F G Post) 0 0 242 [some (.ref 60), none] [.int 1] (sh, (mput (mTk (az_w u 82 0 (znum T m (znx T m e) 9)) (nI (znx T m (znx T m (znx T m e)))) ((zst3 T m (znx T m (znx T m e))).1) (nI (zss T m (znx T m (znx T m e)))) (zfg T m (znx T m (znx T m e)))) 60 c), la)
                  refine A_istore_n (lo2 := [some (.ref 60), some (.int 1)]) dX8_statement_242 rfl (by decide) rfl ?_
                  refine A_aload_n dX8_statement_243 rfl rfl ?_
                  refine A_iload_n dX8_statement_244 rfl rfl ?_
                  refine A_if_eq (tgt := 257) dX8_statement_245 rfl (fun h_9 => ?_) (fun h_9 => ?_)
                  · skip
                    exact absurd h_9 (by decide)
                  · skip
                    refine A_aload_n dX8_statement_248 rfl rfl ?_
                    refine B_getR (r := 82) dX8_statement_249 flX8_68 (hM 0 _ rfl) rfl ?_
                    refine A_iconst (v := 0) dX8_statement_252 (by decide) ?_
                    refine B_ialdV (i := 0) (znum T m (znx T m e) 9) dX8_statement_253 (hM 22 _ rfl) (by decide) (rfl) (by decide) ((congrFun ((mput_ne (by decide) (by decide)).trans (mTk_ne (by decide))) _).trans (by rw [az_w_at])) ?_
                    refine A_goto (tgt := 261) dX8_statement_254 rfl ?_
                    refine B_putI dX8_statement_261 fwX8_47 (hM 0 _ rfl) rfl ?_
                    refine B_sg (show _ = (mput (mTk (az_w u 82 0 (znum T m (znx T m e) 9)) (nI (znx T m (znx T m (znx T m e)))) ((zst3 T m (znx T m (znx T m e))).1) (nI (zss T m (znx T m (znx T m e)))) (zfg T m (znx T m (znx T m e)))) 60 (sCoal c (znum T m (znx T m e) 9))) from mw_13 _ _ _ _) ?_
                    refine A_iload_n dX8_statement_264 rfl rfl ?_
                    have hz := (zstm_k6 (c := c) h_7').trans (zchg_y (w := 3) hn1)
                    refine A_zret dX8_statement_265 rfl (rfl) (hP _ _ ⟨by rw [hz]; rfl, (az_w u 82 0 (znum T m (znx T m e) 9)), (nI (znx T m (znx T m (znx T m e)))), ((zst3 T m (znx T m (znx T m e))).1), (nI (zss T m (znx T m (znx T m e)))), (zfg T m (znx T m (znx T m e))), ((sC.rf u).wk (by decide) _ _), ((az_w_ne (by decide)).trans hT), ((congrFun (az_w_ne (by decide)) 7).trans hm), by rw [az_w_ne (by decide)], ?_, (fun _ => by rw [hz]), (fun q => by rw [hz] at q; cases q)⟩)
                    rw [hz]; rfl
            · skip
              have h_6' := b2i_n.mp h_6
              by_cases hn1 : znum T m (znx T m e) 999 = -1
              · skip
                refine A_aload_n dX8_statement_194 rfl rfl ?_
                refine A_iconst (v := 0) dX8_statement_195 (by decide) ?_
                refine A_sipush (v := 999) dX8_statement_196 (by decide) ?_
                refine A_callV (n := 0) dX8_statement_199 kvX8_tells mlX8_195 rfl (az_rc_obj clX8 (hM 0 _ rfl)) (r_tells_n l G (d + 2) sh u la kp tr c T m e 999 hM hT hm hm2 he hO (by decide) hn1) (by omega) (Nat.le_refl _) (Nat.le_refl _) rfl (Nat.le_of_ble_eq_true rfl) (fun r S1 hp => ?_)
                obtain ⟨rfl, rfl⟩ := hp
                show AW l G mX8_statement (d + 6) (az_F G Post) 0 0 202 [some (.ref 60), none] [.int 0] (sh, (mput (mTk (az_w u 60 27 (nI (zss T m (znx T m e)))) (nI (znx T m (znx T m e))) ((zst3 T m (znx T m e)).1) (nI (zss T m (znx T m e))) (zfg T m (znx T m e))) 60 c), la)
                refine A_istore_n (lo2 := [some (.ref 60), some (.int 0)]) dX8_statement_202 rfl (by decide) rfl ?_
                refine A_aload_n dX8_statement_203 rfl rfl ?_
                refine A_iload_n dX8_statement_204 rfl rfl ?_
                refine A_if_eq (tgt := 217) dX8_statement_205 rfl (fun h_10 => ?_) (fun h_10 => ?_)
                · skip
                  refine A_aload_n dX8_statement_217 rfl rfl ?_
                  refine B_getV (cDay c) dX8_statement_218 flX8_139 (hM 0 _ rfl) rfl (mr_11 _ _ _) ?_
                  refine B_putI dX8_statement_221 fwX8_139 (hM 0 _ rfl) rfl ?_
                  refine B_sg (show _ = (mput (mTk (az_w u 60 27 (nI (zss T m (znx T m e)))) (nI (znx T m (znx T m e))) ((zst3 T m (znx T m e)).1) (nI (zss T m (znx T m e))) (zfg T m (znx T m e))) 60 (sDay c (cDay c))) from mw_11 _ _ _ _) ?_
                  refine A_iload_n dX8_statement_224 rfl rfl ?_
                  have hz := (zstm_k5 (c := c) h_6').trans (zchg_n (w := 2) hn1)
                  refine A_zret dX8_statement_225 rfl (rfl) (hP _ _ ⟨by rw [hz]; rfl, (az_w u 60 27 (nI (zss T m (znx T m e)))), (nI (znx T m (znx T m e))), ((zst3 T m (znx T m e)).1), (nI (zss T m (znx T m e))), (zfg T m (znx T m e)), ((sC.rf u).w (j := 27) rfl _), ((az_w_ne (by decide)).trans hT), ((az_w_nj (by decide)).trans hm), by rw [az_w_nj (by decide)], ?_, (fun q => by rw [hz] at q; cases q), (fun _ => by rw [hz]; exact az_w_at _ _ _ _)⟩)
                  rw [hz, (s_i0 c).2.2.1]
                · skip
                  exact absurd (by decide) h_10
              · skip
                obtain ⟨v_hn1, hv_hn1, e_hn1, hl_hn1⟩ := znum_rng ((znx_le he)) hn1
                refine A_aload_n dX8_statement_194 rfl rfl ?_
                refine A_iconst (v := 0) dX8_statement_195 (by decide) ?_
                refine A_sipush (v := 999) dX8_statement_196 (by decide) ?_
                refine A_callV (n := 0) dX8_statement_199 kvX8_tells mlX8_195 rfl (az_rc_obj clX8 (hM 0 _ rfl)) (r_tells_y l G (d + 2) sh u la kp tr c T m e 999 hM hT hm hm2 he hO (by decide) hn1) (by omega) (Nat.le_refl _) (Nat.le_refl _) rfl (Nat.le_of_ble_eq_true rfl) (fun r S1 hp => ?_)
                obtain ⟨rfl, rfl⟩ := hp
                show AW l G mX8_statement (d + 6) (az_F G Post) 0 0 202 [some (.ref 60), none] [.int 1] (sh, (mput (mTk (az_w u 82 0 (znum T m (znx T m e) 999)) (nI (znx T m (znx T m (znx T m e)))) ((zst3 T m (znx T m (znx T m e))).1) (nI (zss T m (znx T m (znx T m e)))) (zfg T m (znx T m (znx T m e)))) 60 c), la)
                refine A_istore_n (lo2 := [some (.ref 60), some (.int 1)]) dX8_statement_202 rfl (by decide) rfl ?_
                refine A_aload_n dX8_statement_203 rfl rfl ?_
                refine A_iload_n dX8_statement_204 rfl rfl ?_
                refine A_if_eq (tgt := 217) dX8_statement_205 rfl (fun h_11 => ?_) (fun h_11 => ?_)
                · skip
                  exact absurd h_11 (by decide)
                · skip
                  refine A_aload_n dX8_statement_208 rfl rfl ?_
                  refine B_getR (r := 82) dX8_statement_209 flX8_68 (hM 0 _ rfl) rfl ?_
                  refine A_iconst (v := 0) dX8_statement_212 (by decide) ?_
                  refine B_ialdV (i := 0) (znum T m (znx T m e) 999) dX8_statement_213 (hM 22 _ rfl) (by decide) (rfl) (by decide) ((congrFun ((mput_ne (by decide) (by decide)).trans (mTk_ne (by decide))) _).trans (by rw [az_w_at])) ?_
                  refine A_goto (tgt := 221) dX8_statement_214 rfl ?_
                  refine B_putI dX8_statement_221 fwX8_139 (hM 0 _ rfl) rfl ?_
                  refine B_sg (show _ = (mput (mTk (az_w u 82 0 (znum T m (znx T m e) 999)) (nI (znx T m (znx T m (znx T m e)))) ((zst3 T m (znx T m (znx T m e))).1) (nI (zss T m (znx T m (znx T m e)))) (zfg T m (znx T m (znx T m e)))) 60 (sDay c (znum T m (znx T m e) 999))) from mw_11 _ _ _ _) ?_
                  refine A_iload_n dX8_statement_224 rfl rfl ?_
                  have hz := (zstm_k5 (c := c) h_6').trans (zchg_y (w := 2) hn1)
                  refine A_zret dX8_statement_225 rfl (rfl) (hP _ _ ⟨by rw [hz]; rfl, (az_w u 82 0 (znum T m (znx T m e) 999)), (nI (znx T m (znx T m (znx T m e)))), ((zst3 T m (znx T m (znx T m e))).1), (nI (zss T m (znx T m (znx T m e)))), (zfg T m (znx T m (znx T m e))), ((sC.rf u).wk (by decide) _ _), ((az_w_ne (by decide)).trans hT), ((congrFun (az_w_ne (by decide)) 7).trans hm), by rw [az_w_ne (by decide)], ?_, (fun _ => by rw [hz]), (fun q => by rw [hz] at q; cases q)⟩)
                  rw [hz]; rfl
          · skip
            have h_5' := b2i_n.mp h_5
            by_cases hn1 : znum T m (znx T m e) 5 = -1
            · skip
              refine A_aload_n dX8_statement_155 rfl rfl ?_
              refine A_iconst (v := 0) dX8_statement_156 (by decide) ?_
              refine A_iconst (v := 5) dX8_statement_157 (by decide) ?_
              refine A_callV (n := 0) dX8_statement_158 kvX8_tells mlX8_195 rfl (az_rc_obj clX8 (hM 0 _ rfl)) (r_tells_n l G (d + 2) sh u la kp tr c T m e 5 hM hT hm hm2 he hO (by decide) hn1) (by omega) (Nat.le_refl _) (Nat.le_refl _) rfl (Nat.le_of_ble_eq_true rfl) (fun r S1 hp => ?_)
              obtain ⟨rfl, rfl⟩ := hp
              show AW l G mX8_statement (d + 6) (az_F G Post) 0 0 161 [some (.ref 60), none] [.int 0] (sh, (mput (mTk (az_w u 60 27 (nI (zss T m (znx T m e)))) (nI (znx T m (znx T m e))) ((zst3 T m (znx T m e)).1) (nI (zss T m (znx T m e))) (zfg T m (znx T m e))) 60 c), la)
              refine A_istore_n (lo2 := [some (.ref 60), some (.int 0)]) dX8_statement_161 rfl (by decide) rfl ?_
              refine A_aload_n dX8_statement_162 rfl rfl ?_
              refine A_iload_n dX8_statement_163 rfl rfl ?_
              refine A_if_eq (tgt := 176) dX8_statement_164 rfl (fun h_12 => ?_) (fun h_12 => ?_)
              · skip
                refine A_aload_n dX8_statement_176 rfl rfl ?_
                refine B_getV (cFall c) dX8_statement_177 flX8_41 (hM 0 _ rfl) rfl (mr_10 _ _ _) ?_
                refine B_putI dX8_statement_180 fwX8_41 (hM 0 _ rfl) rfl ?_
                refine B_sg (show _ = (mput (mTk (az_w u 60 27 (nI (zss T m (znx T m e)))) (nI (znx T m (znx T m e))) ((zst3 T m (znx T m e)).1) (nI (zss T m (znx T m e))) (zfg T m (znx T m e))) 60 (sFall c (cFall c))) from mw_10 _ _ _ _) ?_
                refine A_iload_n dX8_statement_183 rfl rfl ?_
                have hz := (zstm_k4 (c := c) h_5').trans (zchg_n (w := 1) hn1)
                refine A_zret dX8_statement_184 rfl (rfl) (hP _ _ ⟨by rw [hz]; rfl, (az_w u 60 27 (nI (zss T m (znx T m e)))), (nI (znx T m (znx T m e))), ((zst3 T m (znx T m e)).1), (nI (zss T m (znx T m e))), (zfg T m (znx T m e)), ((sC.rf u).w (j := 27) rfl _), ((az_w_ne (by decide)).trans hT), ((az_w_nj (by decide)).trans hm), by rw [az_w_nj (by decide)], ?_, (fun q => by rw [hz] at q; cases q), (fun _ => by rw [hz]; exact az_w_at _ _ _ _)⟩)
                rw [hz, (s_i0 c).2.1]
              · skip
                exact absurd (by decide) h_12
            · skip
              obtain ⟨v_hn1, hv_hn1, e_hn1, hl_hn1⟩ := znum_rng ((znx_le he)) hn1
              refine A_aload_n dX8_statement_155 rfl rfl ?_
              refine A_iconst (v := 0) dX8_statement_156 (by decide) ?_
              refine A_iconst (v := 5) dX8_statement_157 (by decide) ?_
              refine A_callV (n := 0) dX8_statement_158 kvX8_tells mlX8_195 rfl (az_rc_obj clX8 (hM 0 _ rfl)) (r_tells_y l G (d + 2) sh u la kp tr c T m e 5 hM hT hm hm2 he hO (by decide) hn1) (by omega) (Nat.le_refl _) (Nat.le_refl _) rfl (Nat.le_of_ble_eq_true rfl) (fun r S1 hp => ?_)
              obtain ⟨rfl, rfl⟩ := hp
              show AW l G mX8_statement (d + 6) (az_F G Post) 0 0 161 [some (.ref 60), none] [.int 1] (sh, (mput (mTk (az_w u 82 0 (znum T m (znx T m e) 5)) (nI (znx T m (znx T m (znx T m e)))) ((zst3 T m (znx T m (znx T m e))).1) (nI (zss T m (znx T m (znx T m e)))) (zfg T m (znx T m (znx T m e)))) 60 c), la)
              refine A_istore_n (lo2 := [some (.ref 60), some (.int 1)]) dX8_statement_161 rfl (by decide) rfl ?_
              refine A_aload_n dX8_statement_162 rfl rfl ?_
              refine A_iload_n dX8_statement_163 rfl rfl ?_
              refine A_if_eq (tgt := 176) dX8_statement_164 rfl (fun h_13 => ?_) (fun h_13 => ?_)
              · skip
                exact absurd h_13 (by decide)
              · skip
                refine A_aload_n dX8_statement_167 rfl rfl ?_
                refine B_getR (r := 82) dX8_statement_168 flX8_68 (hM 0 _ rfl) rfl ?_
                refine A_iconst (v := 0) dX8_statement_171 (by decide) ?_
                refine B_ialdV (i := 0) (znum T m (znx T m e) 5) dX8_statement_172 (hM 22 _ rfl) (by decide) (rfl) (by decide) ((congrFun ((mput_ne (by decide) (by decide)).trans (mTk_ne (by decide))) _).trans (by rw [az_w_at])) ?_
                refine A_goto (tgt := 180) dX8_statement_173 rfl ?_
                refine B_putI dX8_statement_180 fwX8_41 (hM 0 _ rfl) rfl ?_
                refine B_sg (show _ = (mput (mTk (az_w u 82 0 (znum T m (znx T m e) 5)) (nI (znx T m (znx T m (znx T m e)))) ((zst3 T m (znx T m (znx T m e))).1) (nI (zss T m (znx T m (znx T m e)))) (zfg T m (znx T m (znx T m e)))) 60 (sFall c (znum T m (znx T m e) 5))) from mw_10 _ _ _ _) ?_
                refine A_iload_n dX8_statement_183 rfl rfl ?_
                have hz := (zstm_k4 (c := c) h_5').trans (zchg_y (w := 1) hn1)
                refine A_zret dX8_statement_184 rfl (rfl) (hP _ _ ⟨by rw [hz]; rfl, (az_w u 82 0 (znum T m (znx T m e) 5)), (nI (znx T m (znx T m (znx T m e)))), ((zst3 T m (znx T m (znx T m e))).1), (nI (zss T m (znx T m (znx T m e)))), (zfg T m (znx T m (znx T m e))), ((sC.rf u).wk (by decide) _ _), ((az_w_ne (by decide)).trans hT), ((congrFun (az_w_ne (by decide)) 7).trans hm), by rw [az_w_ne (by decide)], ?_, (fun _ => by rw [hz]), (fun q => by rw [hz] at q; cases q)⟩)
                rw [hz]; rfl
        · skip
          have h_4' := b2i_n.mp h_4
          by_cases hn1 : znum T m (znx T m e) 40 = -1
          · skip
            refine A_aload_n dX8_statement_115 rfl rfl ?_
            refine A_iconst (v := 0) dX8_statement_116 (by decide) ?_
            refine A_bipush (v := 40) dX8_statement_117 (by decide) ?_
            refine A_callV (n := 0) dX8_statement_119 kvX8_tells mlX8_195 rfl (az_rc_obj clX8 (hM 0 _ rfl)) (r_tells_n l G (d + 2) sh u la kp tr c T m e 40 hM hT hm hm2 he hO (by decide) hn1) (by omega) (Nat.le_refl _) (Nat.le_refl _) rfl (Nat.le_of_ble_eq_true rfl) (fun r S1 hp => ?_)
            obtain ⟨rfl, rfl⟩ := hp
            show AW l G mX8_statement (d + 6) (az_F G Post) 0 0 122 [some (.ref 60), none] [.int 0] (sh, (mput (mTk (az_w u 60 27 (nI (zss T m (znx T m e)))) (nI (znx T m (znx T m e))) ((zst3 T m (znx T m e)).1) (nI (zss T m (znx T m e))) (zfg T m (znx T m e))) 60 c), la)
            refine A_istore_n (lo2 := [some (.ref 60), some (.int 0)]) dX8_statement_122 rfl (by decide) rfl ?_
            refine A_aload_n dX8_statement_123 rfl rfl ?_
            refine A_iload_n dX8_statement_124 rfl rfl ?_
            refine A_if_eq (tgt := 137) dX8_statement_125 rfl (fun h_14 => ?_) (fun h_14 => ?_)
            · skip
              refine A_aload_n dX8_statement_137 rfl rfl ?_
              refine B_getV (cAir c) dX8_statement_138 flX8_37 (hM 0 _ rfl) rfl (mr_9 _ _ _) ?_
              refine B_putI dX8_statement_141 fwX8_37 (hM 0 _ rfl) rfl ?_
              refine B_sg (show _ = (mput (mTk (az_w u 60 27 (nI (zss T m (znx T m e)))) (nI (znx T m (znx T m e))) ((zst3 T m (znx T m e)).1) (nI (zss T m (znx T m e))) (zfg T m (znx T m e))) 60 (sAir c (cAir c))) from mw_9 _ _ _ _) ?_
              refine A_iload_n dX8_statement_144 rfl rfl ?_
              have hz := (zstm_k3 (c := c) h_4').trans (zchg_n (w := 0) hn1)
              refine A_zret dX8_statement_145 rfl (rfl) (hP _ _ ⟨by rw [hz]; rfl, (az_w u 60 27 (nI (zss T m (znx T m e)))), (nI (znx T m (znx T m e))), ((zst3 T m (znx T m e)).1), (nI (zss T m (znx T m e))), (zfg T m (znx T m e)), ((sC.rf u).w (j := 27) rfl _), ((az_w_ne (by decide)).trans hT), ((az_w_nj (by decide)).trans hm), by rw [az_w_nj (by decide)], ?_, (fun q => by rw [hz] at q; cases q), (fun _ => by rw [hz]; exact az_w_at _ _ _ _)⟩)
              rw [hz, (s_i0 c).1]
            · skip
              exact absurd (by decide) h_14
          · skip
            obtain ⟨v_hn1, hv_hn1, e_hn1, hl_hn1⟩ := znum_rng ((znx_le he)) hn1
            refine A_aload_n dX8_statement_115 rfl rfl ?_
            refine A_iconst (v := 0) dX8_statement_116 (by decide) ?_
            refine A_bipush (v := 40) dX8_statement_117 (by decide) ?_
            refine A_callV (n := 0) dX8_statement_119 kvX8_tells mlX8_195 rfl (az_rc_obj clX8 (hM 0 _ rfl)) (r_tells_y l G (d + 2) sh u la kp tr c T m e 40 hM hT hm hm2 he hO (by decide) hn1) (by omega) (Nat.le_refl _) (Nat.le_refl _) rfl (Nat.le_of_ble_eq_true rfl) (fun r S1 hp => ?_)
            obtain ⟨rfl, rfl⟩ := hp
            show AW l G mX8_statement (d + 6) (az_F G Post) 0 0 122 [some (.ref 60), none] [.int 1] (sh, (mput (mTk (az_w u 82 0 (znum T m (znx T m e) 40)) (nI (znx T m (znx T m (znx T m e)))) ((zst3 T m (znx T m (znx T m e))).1) (nI (zss T m (znx T m (znx T m e)))) (zfg T m (znx T m (znx T m e)))) 60 c), la)
            refine A_istore_n (lo2 := [some (.ref 60), some (.int 1)]) dX8_statement_122 rfl (by decide) rfl ?_
            refine A_aload_n dX8_statement_123 rfl rfl ?_
            refine A_iload_n dX8_statement_124 rfl rfl ?_
            refine A_if_eq (tgt := 137) dX8_statement_125 rfl (fun h_15 => ?_) (fun h_15 => ?_)
            · skip
              exact absurd h_15 (by decide)
            · skip
              refine A_aload_n dX8_statement_128 rfl rfl ?_
              refine B_getR (r := 82) dX8_statement_129 flX8_68 (hM 0 _ rfl) rfl ?_
              refine A_iconst (v := 0) dX8_statement_132 (by decide) ?_
              refine B_ialdV (i := 0) (znum T m (znx T m e) 40) dX8_statement_133 (hM 22 _ rfl) (by decide) (rfl) (by decide) ((congrFun ((mput_ne (by decide) (by decide)).trans (mTk_ne (by decide))) _).trans (by rw [az_w_at])) ?_
              refine A_goto (tgt := 141) dX8_statement_134 rfl ?_
              refine B_putI dX8_statement_141 fwX8_37 (hM 0 _ rfl) rfl ?_
              refine B_sg (show _ = (mput (mTk (az_w u 82 0 (znum T m (znx T m e) 40)) (nI (znx T m (znx T m (znx T m e)))) ((zst3 T m (znx T m (znx T m e))).1) (nI (zss T m (znx T m (znx T m e)))) (zfg T m (znx T m (znx T m e)))) 60 (sAir c (znum T m (znx T m e) 40))) from mw_9 _ _ _ _) ?_
              refine A_iload_n dX8_statement_144 rfl rfl ?_
              have hz := (zstm_k3 (c := c) h_4').trans (zchg_y (w := 0) hn1)
              refine A_zret dX8_statement_145 rfl (rfl) (hP _ _ ⟨by rw [hz]; rfl, (az_w u 82 0 (znum T m (znx T m e) 40)), (nI (znx T m (znx T m (znx T m e)))), ((zst3 T m (znx T m (znx T m e))).1), (nI (zss T m (znx T m (znx T m e)))), (zfg T m (znx T m (znx T m e))), ((sC.rf u).wk (by decide) _ _), ((az_w_ne (by decide)).trans hT), ((congrFun (az_w_ne (by decide)) 7).trans hm), by rw [az_w_ne (by decide)], ?_, (fun _ => by rw [hz]), (fun q => by rw [hz] at q; cases q)⟩)
              rw [hz]; rfl
      · skip
        have h_3' := b2i_n.mp h_3
        refine A_aload_n dX8_statement_101 rfl rfl ?_
        refine A_callV (n := 0) dX8_statement_102 kvX8_tellsOne mlX8_202 rfl (az_rc_obj clX8 (hM 0 _ rfl)) (r_tellsOne_B l G d sh u la kp tr c T m e hM hT hm hm2 he hO h_3') (by omega) (Nat.le_refl _) (Nat.le_refl _) rfl (Nat.le_of_ble_eq_true rfl) (fun r S1 hp => ?_)
        obtain ⟨rfl, v, a, t, f, g, hsv, hTv, hmv, h29, rfl, hok, hbad⟩ := hp
        show AW l G mX8_statement (d + 6) (az_F G Post) 0 0 105 [some (.ref 60), none] [.int (b2i ((zpor T m (znx T m e) (cBr c) (cN c) 9).1 = true))] (sh, (mput (mTk v a t f g) 60 (sBr c (zpor T m (znx T m e) (cBr c) (cN c) 9).2.2)), la)
        have hz := zstm_k2 (c := c) h_3'
        refine A_zret dX8_statement_105 rfl (narrow_b2i _) (hP _ _ ⟨by rw [hz], v, a, t, f, g, hsv, hTv, hmv, h29, by rw [hz], (fun q => by rw [hz] at q ⊢; exact hok q), (fun q => by rw [hz] at q ⊢; exact hbad q)⟩)
  · skip
    have h_1' := b2i_n.mp h_1
    refine A_aload_n dX8_statement_9 rfl rfl ?_
    refine B_getV (nI (cN c)) dX8_statement_10 flX8_88 (hM 0 _ rfl) rfl ((mr_14 _ _ _).trans hO.1) ?_
    refine A_bipush (v := 8) dX8_statement_13 (by decide) ?_
    refine A_icmp_ge (tgt := 83) dX8_statement_15 rfl (fun h_16 => ?_) (fun h_16 => ?_)
    · skip
      have h7 : ¬ cN c < 8 := fun q => absurd h_16 (nI_ge (b := 8) q (by decide))
      refine A_aload_n dX8_statement_83 rfl rfl ?_
      refine A_ldcS (n := 1) dX8_statement_84 (by decide) ?_
      refine A_callV (n := 0) dX8_statement_86 kvX8_isWord mlX8_191 rfl (az_rc_obj clX8 (hM 0 _ rfl)) (r_isWord l G (d + 1) sh u la kp tr c T m e 1 hM hT hm hm2 he (by decide)) (by omega) (Nat.le_refl _) (Nat.le_refl _) rfl (Nat.le_of_ble_eq_true rfl) (fun r S1 hp => ?_)
      obtain ⟨rfl, rfl⟩ := hp
      show AW l G mX8_statement (d + 6) (az_F G Post) 0 0 89 [some (.ref 60), none] [.int (b2i (zwk T m e 1 = true))] (sh, (mput (mTk u (nI (znx T m e)) ((zst3 T m e).1) (nI (zss T m e)) (zfg T m e)) 60 c), la)
      refine A_if_ne (tgt := 101) dX8_statement_89 rfl (fun h_17 => ?_) (fun h_17 => ?_)
      · skip
        have h_17' := b2i_n.mp h_17
        exact absurd (b2i_n.mp h_17) (by rw [zwk_ne (k := 1) (by decide) (by decide) (by decide) h_1']; decide)
      · skip
        have h_17' := b2i_0.mp h_17
        refine A_aload_n dX8_statement_92 rfl rfl ?_
        refine A_ldcS (n := 2) dX8_statement_93 (by decide) ?_
        refine A_callV (n := 0) dX8_statement_95 kvX8_isWord mlX8_191 rfl (az_rc_obj clX8 (hM 0 _ rfl)) (r_isWord l G (d + 1) sh u la kp tr c T m e 2 hM hT hm hm2 he (by decide)) (by omega) (Nat.le_refl _) (Nat.le_refl _) rfl (Nat.le_of_ble_eq_true rfl) (fun r S1 hp => ?_)
        obtain ⟨rfl, rfl⟩ := hp
        show AW l G mX8_statement (d + 6) (az_F G Post) 0 0 98 [some (.ref 60), none] [.int (b2i (zwk T m e 2 = true))] (sh, (mput (mTk u (nI (znx T m e)) ((zst3 T m e).1) (nI (zss T m e)) (zfg T m e)) 60 c), la)
        refine A_if_eq (tgt := 106) dX8_statement_98 rfl (fun h_18 => ?_) (fun h_18 => ?_)
        · skip
          have h_18' := b2i_0.mp h_18
          refine A_aload_n dX8_statement_106 rfl rfl ?_
          refine A_ldcS (n := 3) dX8_statement_107 (by decide) ?_
          refine A_callV (n := 0) dX8_statement_109 kvX8_isWord mlX8_191 rfl (az_rc_obj clX8 (hM 0 _ rfl)) (r_isWord l G (d + 1) sh u la kp tr c T m e 3 hM hT hm hm2 he (by decide)) (by omega) (Nat.le_refl _) (Nat.le_refl _) rfl (Nat.le_of_ble_eq_true rfl) (fun r S1 hp => ?_)
          obtain ⟨rfl, rfl⟩ := hp
          show AW l G mX8_statement (d + 6) (az_F G Post) 0 0 112 [some (.ref 60), none] [.int (b2i (zwk T m e 3 = true))] (sh, (mput (mTk u (nI (znx T m e)) ((zst3 T m e).1) (nI (zss T m e)) (zfg T m e)) 60 c), la)
          refine A_if_eq (tgt := 146) dX8_statement_112 rfl (fun h_19 => ?_) (fun h_19 => ?_)
          · skip
            have h_19' := b2i_0.mp h_19
            refine A_aload_n dX8_statement_146 rfl rfl ?_
            refine A_ldcS (n := 4) dX8_statement_147 (by decide) ?_
            refine A_callV (n := 0) dX8_statement_149 kvX8_isWord mlX8_191 rfl (az_rc_obj clX8 (hM 0 _ rfl)) (r_isWord l G (d + 1) sh u la kp tr c T m e 4 hM hT hm hm2 he (by decide)) (by omega) (Nat.le_refl _) (Nat.le_refl _) rfl (Nat.le_of_ble_eq_true rfl) (fun r S1 hp => ?_)
            obtain ⟨rfl, rfl⟩ := hp
            show AW l G mX8_statement (d + 6) (az_F G Post) 0 0 152 [some (.ref 60), none] [.int (b2i (zwk T m e 4 = true))] (sh, (mput (mTk u (nI (znx T m e)) ((zst3 T m e).1) (nI (zss T m e)) (zfg T m e)) 60 c), la)
            refine A_if_eq (tgt := 185) dX8_statement_152 rfl (fun h_20 => ?_) (fun h_20 => ?_)
            · skip
              have h_20' := b2i_0.mp h_20
              refine A_aload_n dX8_statement_185 rfl rfl ?_
              refine A_ldcS (n := 5) dX8_statement_186 (by decide) ?_
              refine A_callV (n := 0) dX8_statement_188 kvX8_isWord mlX8_191 rfl (az_rc_obj clX8 (hM 0 _ rfl)) (r_isWord l G (d + 1) sh u la kp tr c T m e 5 hM hT hm hm2 he (by decide)) (by omega) (Nat.le_refl _) (Nat.le_refl _) rfl (Nat.le_of_ble_eq_true rfl) (fun r S1 hp => ?_)
              obtain ⟨rfl, rfl⟩ := hp
              show AW l G mX8_statement (d + 6) (az_F G Post) 0 0 191 [some (.ref 60), none] [.int (b2i (zwk T m e 5 = true))] (sh, (mput (mTk u (nI (znx T m e)) ((zst3 T m e).1) (nI (zss T m e)) (zfg T m e)) 60 c), la)
              refine A_if_eq (tgt := 226) dX8_statement_191 rfl (fun h_21 => ?_) (fun h_21 => ?_)
              · skip
                have h_21' := b2i_0.mp h_21
                refine A_aload_n dX8_statement_226 rfl rfl ?_
                refine A_ldcS (n := 6) dX8_statement_227 (by decide) ?_
                refine A_callV (n := 0) dX8_statement_229 kvX8_isWord mlX8_191 rfl (az_rc_obj clX8 (hM 0 _ rfl)) (r_isWord l G (d + 1) sh u la kp tr c T m e 6 hM hT hm hm2 he (by decide)) (by omega) (Nat.le_refl _) (Nat.le_refl _) rfl (Nat.le_of_ble_eq_true rfl) (fun r S1 hp => ?_)
                obtain ⟨rfl, rfl⟩ := hp
                show AW l G mX8_statement (d + 6) (az_F G Post) 0 0 232 [some (.ref 60), none] [.int (b2i (zwk T m e 6 = true))] (sh, (mput (mTk u (nI (znx T m e)) ((zst3 T m e).1) (nI (zss T m e)) (zfg T m e)) 60 c), la)
                refine A_if_eq (tgt := 266) dX8_statement_232 rfl (fun h_22 => ?_) (fun h_22 => ?_)
                · skip
                  have h_22' := b2i_0.mp h_22
                  refine A_aload_n dX8_statement_266 rfl rfl ?_
                  refine A_callV (n := 0) dX8_statement_267 kvX8_wrong mlX8_179 rfl (az_rc_obj clX8 (hM 0 _ rfl)) (r_wrong l G (d + 5) sh u la kp tr c (nI (znx T m e)) ((zst3 T m e).1) (nI (zss T m e)) (zfg T m e) hM) (by omega) (Nat.le_refl _) (Nat.le_refl _) rfl (Nat.le_of_ble_eq_true rfl) (fun r S1 hp => ?_)
                  obtain ⟨rfl, rfl⟩ := hp
                  show AW l G mX8_statement (d + 6) (az_F G Post) 0 0 270 [some (.ref 60), none] [.int 0] (sh, (mput (mTk (az_w u 60 27 (nI (zss T m e))) (nI (znx T m e)) ((zst3 T m e).1) (nI (zss T m e)) (zfg T m e)) 60 c), la)
                  have hz := zstm_q h_1' h7
                  refine A_zret dX8_statement_270 rfl (rfl) (hP _ _ ⟨by rw [hz]; rfl, (az_w u 60 27 (nI (zss T m e))), (nI (znx T m e)), ((zst3 T m e).1), (nI (zss T m e)), (zfg T m e), ((sC.rf u).w (j := 27) rfl _), ((az_w_ne (by decide)).trans hT), ((az_w_nj (by decide)).trans hm), by rw [az_w_nj (by decide)], ?_, (fun q => by rw [hz] at q; cases q), (fun _ => by rw [hz]; exact az_w_at _ _ _ _)⟩)
                  rw [hz]
                · skip
                  have h_22' := b2i_n.mp h_22
                  exact absurd (b2i_n.mp h_22) (by rw [zwk_ne (k := 6) (by decide) (by decide) (by decide) h_1']; decide)
              · skip
                have h_21' := b2i_n.mp h_21
                exact absurd (b2i_n.mp h_21) (by rw [zwk_ne (k := 5) (by decide) (by decide) (by decide) h_1']; decide)
            · skip
              have h_20' := b2i_n.mp h_20
              exact absurd (b2i_n.mp h_20) (by rw [zwk_ne (k := 4) (by decide) (by decide) (by decide) h_1']; decide)
          · skip
            have h_19' := b2i_n.mp h_19
            exact absurd (b2i_n.mp h_19) (by rw [zwk_ne (k := 3) (by decide) (by decide) (by decide) h_1']; decide)
        · skip
          have h_18' := b2i_n.mp h_18
          exact absurd (b2i_n.mp h_18) (by rw [zwk_ne (k := 2) (by decide) (by decide) (by decide) h_1']; decide)
    · skip
      have h7 : cN c < 8 := (nI_ltI (b := 8) (by omega) (by decide)).mp (Int32.not_le.mp h_16)
      by_cases hn1 : znum T m (znx T m e) 5 = -1
      · skip
        refine A_aload_n dX8_statement_18 rfl rfl ?_
        refine A_iconst (v := 0) dX8_statement_19 (by decide) ?_
        refine A_iconst (v := 5) dX8_statement_20 (by decide) ?_
        refine A_callV (n := 0) dX8_statement_21 kvX8_tells mlX8_195 rfl (az_rc_obj clX8 (hM 0 _ rfl)) (r_tells_n l G (d + 2) sh u la kp tr c T m e 5 hM hT hm hm2 he hO (by decide) hn1) (by omega) (Nat.le_refl _) (Nat.le_refl _) rfl (Nat.le_of_ble_eq_true rfl) (fun r S1 hp => ?_)
        obtain ⟨rfl, rfl⟩ := hp
        show AW l G mX8_statement (d + 6) (az_F G Post) 0 0 24 [some (.ref 60), none] [.int 0] (sh, (mput (mTk (az_w u 60 27 (nI (zss T m (znx T m e)))) (nI (znx T m (znx T m e))) ((zst3 T m (znx T m e)).1) (nI (zss T m (znx T m e))) (zfg T m (znx T m e))) 60 c), la)
        refine A_if_eq (tgt := 53) dX8_statement_24 rfl (fun h_23 => ?_) (fun h_23 => ?_)
        · skip
          refine A_iconst (v := 0) dX8_statement_53 (by decide) ?_
          refine A_istore_n (lo2 := [some (.ref 60), some (.int 0)]) dX8_statement_54 rfl (by decide) rfl ?_
          refine A_iload_n dX8_statement_55 rfl rfl ?_
          refine A_if_eq (tgt := 81) dX8_statement_56 rfl (fun h_24 => ?_) (fun h_24 => ?_)
          · skip
            refine A_iload_n dX8_statement_81 rfl rfl ?_
            have hz := (zstm_p h_1' h7).trans (zper_1 hn1)
            refine A_zret dX8_statement_82 rfl (rfl) (hP _ _ ⟨by rw [hz]; rfl, (az_w u 60 27 (nI (zss T m (znx T m e)))), (nI (znx T m (znx T m e))), ((zst3 T m (znx T m e)).1), (nI (zss T m (znx T m e))), (zfg T m (znx T m e)), ((sC.rf u).w (j := 27) rfl _), ((az_w_ne (by decide)).trans hT), ((az_w_nj (by decide)).trans hm), by rw [az_w_nj (by decide)], ?_, (fun q => by rw [hz] at q; cases q), (fun _ => by rw [hz]; exact az_w_at _ _ _ _)⟩)
            rw [hz]
          · skip
            exact absurd (by decide) h_24
        · skip
          exact absurd (by decide) h_23
      · skip
        obtain ⟨v_hn1, hv_hn1, e_hn1, hl_hn1⟩ := znum_rng ((znx_le he)) hn1
        refine A_aload_n dX8_statement_18 rfl rfl ?_
        refine A_iconst (v := 0) dX8_statement_19 (by decide) ?_
        refine A_iconst (v := 5) dX8_statement_20 (by decide) ?_
        refine A_callV (n := 0) dX8_statement_21 kvX8_tells mlX8_195 rfl (az_rc_obj clX8 (hM 0 _ rfl)) (r_tells_y l G (d + 2) sh u la kp tr c T m e 5 hM hT hm hm2 he hO (by decide) hn1) (by omega) (Nat.le_refl _) (Nat.le_refl _) rfl (Nat.le_of_ble_eq_true rfl) (fun r S1 hp => ?_)
        obtain ⟨rfl, rfl⟩ := hp
        show AW l G mX8_statement (d + 6) (az_F G Post) 0 0 24 [some (.ref 60), none] [.int 1] (sh, (mput (mTk (az_w u 82 0 (znum T m (znx T m e) 5)) (nI (znx T m (znx T m (znx T m e)))) ((zst3 T m (znx T m (znx T m e))).1) (nI (zss T m (znx T m (znx T m e)))) (zfg T m (znx T m (znx T m e)))) 60 c), la)
        refine A_if_eq (tgt := 53) dX8_statement_24 rfl (fun h_25 => ?_) (fun h_25 => ?_)
        · skip
          exact absurd h_25 (by decide)
        · skip
          by_cases hn2 : znum T m (znx T m (znx T m e)) 9 = -1
          · skip
            refine A_aload_n dX8_statement_27 rfl rfl ?_
            refine A_iconst (v := 1) dX8_statement_28 (by decide) ?_
            refine A_iconst (v := 0) dX8_statement_29 (by decide) ?_
            refine A_bipush (v := 9) dX8_statement_30 (by decide) ?_
            refine A_callV (n := 0) dX8_statement_32 kvX8_number mlX8_186 rfl (az_rc_obj clX8 (hM 0 _ rfl)) (r_number_n l G (d + 3) sh (az_w u 82 0 (znum T m (znx T m e) 5)) la kp tr c T m (znx T m (znx T m e)) 1 9 hM ((az_w_ne (by decide)).trans hT) ((congrFun (az_w_ne (by decide)) 7).trans hm) hm2 (znx_le (znx_le he)) hO (by decide) (by decide) hn2) (by omega) (Nat.le_refl _) (Nat.le_refl _) rfl (Nat.le_of_ble_eq_true rfl) (fun r S1 hp => ?_)
            obtain ⟨rfl, rfl⟩ := hp
            show AW l G mX8_statement (d + 6) (az_F G Post) 0 0 35 [some (.ref 60), none] [.int 0] (sh, (mput (mTk (az_w (az_w u 82 0 (znum T m (znx T m e) 5)) 60 27 (nI (zss T m (znx T m (znx T m e))))) (nI (znx T m (znx T m (znx T m e)))) ((zst3 T m (znx T m (znx T m e))).1) (nI (zss T m (znx T m (znx T m e)))) (zfg T m (znx T m (znx T m e)))) 60 c), la)
            refine A_if_eq (tgt := 53) dX8_statement_35 rfl (fun h_26 => ?_) (fun h_26 => ?_)
            · skip
              refine A_iconst (v := 0) dX8_statement_53 (by decide) ?_
              refine A_istore_n (lo2 := [some (.ref 60), some (.int 0)]) dX8_statement_54 rfl (by decide) rfl ?_
              refine A_iload_n dX8_statement_55 rfl rfl ?_
              refine A_if_eq (tgt := 81) dX8_statement_56 rfl (fun h_27 => ?_) (fun h_27 => ?_)
              · skip
                refine A_iload_n dX8_statement_81 rfl rfl ?_
                have hz := (zstm_p h_1' h7).trans (zper_2 hn1 hn2)
                refine A_zret dX8_statement_82 rfl (rfl) (hP _ _ ⟨by rw [hz]; rfl, (az_w (az_w u 82 0 (znum T m (znx T m e) 5)) 60 27 (nI (zss T m (znx T m (znx T m e))))), (nI (znx T m (znx T m (znx T m e)))), ((zst3 T m (znx T m (znx T m e))).1), (nI (zss T m (znx T m (znx T m e)))), (zfg T m (znx T m (znx T m e))), (((sC.rf u).wk (by decide) _ _).w (j := 27) rfl _), ((az_w_ne (by decide)).trans ((az_w_ne (by decide)).trans hT)), ((az_w_nj (by decide)).trans ((congrFun (az_w_ne (by decide)) 7).trans hm)), by rw [az_w_nj (by decide), az_w_ne (by decide)], ?_, (fun q => by rw [hz] at q; cases q), (fun _ => by rw [hz]; exact az_w_at _ _ _ _)⟩)
                rw [hz]
              · skip
                exact absurd (by decide) h_27
            · skip
              exact absurd (by decide) h_26
          · skip
            obtain ⟨v_hn2, hv_hn2, e_hn2, hl_hn2⟩ := znum_rng ((znx_le (znx_le he))) hn2
            refine A_aload_n dX8_statement_27 rfl rfl ?_
            refine A_iconst (v := 1) dX8_statement_28 (by decide) ?_
            refine A_iconst (v := 0) dX8_statement_29 (by decide) ?_
            refine A_bipush (v := 9) dX8_statement_30 (by decide) ?_
            refine A_callV (n := 0) dX8_statement_32 kvX8_number mlX8_186 rfl (az_rc_obj clX8 (hM 0 _ rfl)) (r_number_y l G (d + 3) sh (az_w u 82 0 (znum T m (znx T m e) 5)) la kp tr c T m (znx T m (znx T m e)) 1 9 hM ((az_w_ne (by decide)).trans hT) ((congrFun (az_w_ne (by decide)) 7).trans hm) hm2 (znx_le (znx_le he)) hO (by decide) (by decide) hn2) (by omega) (Nat.le_refl _) (Nat.le_refl _) rfl (Nat.le_of_ble_eq_true rfl) (fun r S1 hp => ?_)
            obtain ⟨rfl, rfl⟩ := hp
            show AW l G mX8_statement (d + 6) (az_F G Post) 0 0 35 [some (.ref 60), none] [.int 1] (sh, (mput (mTk (az_w (az_w u 82 0 (znum T m (znx T m e) 5)) 82 1 (znum T m (znx T m (znx T m e)) 9)) (nI (znx T m (znx T m (znx T m (znx T m e))))) ((zst3 T m (znx T m (znx T m (znx T m e)))).1) (nI (zss T m (znx T m (znx T m (znx T m e))))) (zfg T m (znx T m (znx T m (znx T m e))))) 60 c), la)
            refine A_if_eq (tgt := 53) dX8_statement_35 rfl (fun h_28 => ?_) (fun h_28 => ?_)
            · skip
              exact absurd h_28 (by decide)
            · skip
              by_cases hn3 : znum T m (znx T m (znx T m (znx T m e))) 20 = -1
              · skip
                refine A_aload_n dX8_statement_38 rfl rfl ?_
                refine A_iconst (v := 2) dX8_statement_39 (by decide) ?_
                refine A_iconst (v := 0) dX8_statement_40 (by decide) ?_
                refine A_bipush (v := 20) dX8_statement_41 (by decide) ?_
                refine A_callV (n := 0) dX8_statement_43 kvX8_number mlX8_186 rfl (az_rc_obj clX8 (hM 0 _ rfl)) (r_number_n l G (d + 3) sh (az_w (az_w u 82 0 (znum T m (znx T m e) 5)) 82 1 (znum T m (znx T m (znx T m e)) 9)) la kp tr c T m (znx T m (znx T m (znx T m e))) 2 20 hM ((az_w_ne (by decide)).trans ((az_w_ne (by decide)).trans hT)) ((congrFun (az_w_ne (by decide)) 7).trans ((congrFun (az_w_ne (by decide)) 7).trans hm)) hm2 (znx_le (znx_le (znx_le he))) hO (by decide) (by decide) hn3) (by omega) (Nat.le_refl _) (Nat.le_refl _) rfl (Nat.le_of_ble_eq_true rfl) (fun r S1 hp => ?_)
                obtain ⟨rfl, rfl⟩ := hp
                show AW l G mX8_statement (d + 6) (az_F G Post) 0 0 46 [some (.ref 60), none] [.int 0] (sh, (mput (mTk (az_w (az_w (az_w u 82 0 (znum T m (znx T m e) 5)) 82 1 (znum T m (znx T m (znx T m e)) 9)) 60 27 (nI (zss T m (znx T m (znx T m (znx T m e)))))) (nI (znx T m (znx T m (znx T m (znx T m e))))) ((zst3 T m (znx T m (znx T m (znx T m e)))).1) (nI (zss T m (znx T m (znx T m (znx T m e))))) (zfg T m (znx T m (znx T m (znx T m e))))) 60 c), la)
                refine A_if_eq (tgt := 53) dX8_statement_46 rfl (fun h_29 => ?_) (fun h_29 => ?_)
                · skip
                  refine A_iconst (v := 0) dX8_statement_53 (by decide) ?_
                  refine A_istore_n (lo2 := [some (.ref 60), some (.int 0)]) dX8_statement_54 rfl (by decide) rfl ?_
                  refine A_iload_n dX8_statement_55 rfl rfl ?_
                  refine A_if_eq (tgt := 81) dX8_statement_56 rfl (fun h_30 => ?_) (fun h_30 => ?_)
                  · skip
                    refine A_iload_n dX8_statement_81 rfl rfl ?_
                    have hz := (zstm_p h_1' h7).trans (zper_3 hn1 hn2 hn3)
                    refine A_zret dX8_statement_82 rfl (rfl) (hP _ _ ⟨by rw [hz]; rfl, (az_w (az_w (az_w u 82 0 (znum T m (znx T m e) 5)) 82 1 (znum T m (znx T m (znx T m e)) 9)) 60 27 (nI (zss T m (znx T m (znx T m (znx T m e)))))), (nI (znx T m (znx T m (znx T m (znx T m e))))), ((zst3 T m (znx T m (znx T m (znx T m e)))).1), (nI (zss T m (znx T m (znx T m (znx T m e))))), (zfg T m (znx T m (znx T m (znx T m e)))), ((((sC.rf u).wk (by decide) _ _).wk (by decide) _ _).w (j := 27) rfl _), ((az_w_ne (by decide)).trans ((az_w_ne (by decide)).trans ((az_w_ne (by decide)).trans hT))), ((az_w_nj (by decide)).trans ((congrFun (az_w_ne (by decide)) 7).trans ((congrFun (az_w_ne (by decide)) 7).trans hm))), by rw [az_w_nj (by decide), az_w_ne (by decide), az_w_ne (by decide)], ?_, (fun q => by rw [hz] at q; cases q), (fun _ => by rw [hz]; exact az_w_at _ _ _ _)⟩)
                    rw [hz]
                  · skip
                    exact absurd (by decide) h_30
                · skip
                  exact absurd (by decide) h_29
              · skip
                obtain ⟨v_hn3, hv_hn3, e_hn3, hl_hn3⟩ := znum_rng ((znx_le (znx_le (znx_le he)))) hn3
                refine A_aload_n dX8_statement_38 rfl rfl ?_
                refine A_iconst (v := 2) dX8_statement_39 (by decide) ?_
                refine A_iconst (v := 0) dX8_statement_40 (by decide) ?_
                refine A_bipush (v := 20) dX8_statement_41 (by decide) ?_
                refine A_callV (n := 0) dX8_statement_43 kvX8_number mlX8_186 rfl (az_rc_obj clX8 (hM 0 _ rfl)) (r_number_y l G (d + 3) sh (az_w (az_w u 82 0 (znum T m (znx T m e) 5)) 82 1 (znum T m (znx T m (znx T m e)) 9)) la kp tr c T m (znx T m (znx T m (znx T m e))) 2 20 hM ((az_w_ne (by decide)).trans ((az_w_ne (by decide)).trans hT)) ((congrFun (az_w_ne (by decide)) 7).trans ((congrFun (az_w_ne (by decide)) 7).trans hm)) hm2 (znx_le (znx_le (znx_le he))) hO (by decide) (by decide) hn3) (by omega) (Nat.le_refl _) (Nat.le_refl _) rfl (Nat.le_of_ble_eq_true rfl) (fun r S1 hp => ?_)
                obtain ⟨rfl, rfl⟩ := hp
                show AW l G mX8_statement (d + 6) (az_F G Post) 0 0 46 [some (.ref 60), none] [.int 1] (sh, (mput (mTk (az_w (az_w (az_w u 82 0 (znum T m (znx T m e) 5)) 82 1 (znum T m (znx T m (znx T m e)) 9)) 82 2 (znum T m (znx T m (znx T m (znx T m e))) 20)) (nI (znx T m (znx T m (znx T m (znx T m (znx T m e)))))) ((zst3 T m (znx T m (znx T m (znx T m (znx T m e))))).1) (nI (zss T m (znx T m (znx T m (znx T m (znx T m e)))))) (zfg T m (znx T m (znx T m (znx T m (znx T m e)))))) 60 c), la)
                refine A_if_eq (tgt := 53) dX8_statement_46 rfl (fun h_31 => ?_) (fun h_31 => ?_)
                · skip
                  exact absurd h_31 (by decide)
                · skip
                  refine A_iconst (v := 1) dX8_statement_49 (by decide) ?_
                  refine A_goto (tgt := 54) dX8_statement_50 rfl ?_
                  refine A_istore_n (lo2 := [some (.ref 60), some (.int 1)]) dX8_statement_54 rfl (by decide) rfl ?_
                  refine A_iload_n dX8_statement_55 rfl rfl ?_
                  refine A_if_eq (tgt := 81) dX8_statement_56 rfl (fun h_32 => ?_) (fun h_32 => ?_)
                  · skip
                    exact absurd h_32 (by decide)
                  · skip
                    refine A_aload_n dX8_statement_59 rfl rfl ?_
                    refine A_aload_n dX8_statement_60 rfl rfl ?_
                    refine B_getR (r := 82) dX8_statement_61 flX8_68 (hM 0 _ rfl) rfl ?_
                    refine A_iconst (v := 0) dX8_statement_64 (by decide) ?_
                    refine B_ialdV (i := 0) (znum T m (znx T m e) 5) dX8_statement_65 (hM 22 _ rfl) (by decide) (rfl) (by decide) ((congrFun ((mput_ne (by decide) (by decide)).trans (mTk_ne (by decide))) _).trans (by rw [az_w_nj (by decide), az_w_nj (by decide), az_w_at])) ?_
                    refine A_aload_n dX8_statement_66 rfl rfl ?_
                    refine B_getR (r := 82) dX8_statement_67 flX8_68 (hM 0 _ rfl) rfl ?_
                    refine A_iconst (v := 1) dX8_statement_70 (by decide) ?_
                    refine B_ialdV (i := 1) (znum T m (znx T m (znx T m e)) 9) dX8_statement_71 (hM 22 _ rfl) (by decide) (rfl) (by decide) ((congrFun ((mput_ne (by decide) (by decide)).trans (mTk_ne (by decide))) _).trans (by rw [az_w_nj (by decide), az_w_at])) ?_
                    refine A_aload_n dX8_statement_72 rfl rfl ?_
                    refine B_getR (r := 82) dX8_statement_73 flX8_68 (hM 0 _ rfl) rfl ?_
                    refine A_iconst (v := 2) dX8_statement_76 (by decide) ?_
                    refine B_ialdV (i := 2) (znum T m (znx T m (znx T m (znx T m e))) 20) dX8_statement_77 (hM 22 _ rfl) (by decide) (rfl) (by decide) ((congrFun ((mput_ne (by decide) (by decide)).trans (mTk_ne (by decide))) _).trans (by rw [az_w_at])) ?_
                    refine A_callV (n := 0) dX8_statement_78 kvX8_addPerson mlX8_129 rfl (az_rc_obj clX8 (hM 0 _ rfl)) (r_addPerson l G (d + 5) sh (mTk (az_w (az_w (az_w u 82 0 (znum T m (znx T m e) 5)) 82 1 (znum T m (znx T m (znx T m e)) 9)) 82 2 (znum T m (znx T m (znx T m (znx T m e))) 20)) (nI (znx T m (znx T m (znx T m (znx T m (znx T m e)))))) ((zst3 T m (znx T m (znx T m (znx T m (znx T m e))))).1) (nI (zss T m (znx T m (znx T m (znx T m (znx T m e)))))) (zfg T m (znx T m (znx T m (znx T m (znx T m e)))))) la kp tr c (znum T m (znx T m e) 5) (znum T m (znx T m (znx T m e)) 9) (znum T m (znx T m (znx T m (znx T m e))) 20) hM hO h7) (by omega) (Nat.le_refl _) (Nat.le_refl _) rfl (Nat.le_of_ble_eq_true rfl) (fun r S1 hp => ?_)
                    obtain ⟨rfl, rfl⟩ := hp
                    show AW l G mX8_statement (d + 6) (az_F G Post) 0 0 81 [some (.ref 60), some (.int 1)] [] (sh, (mput (mTk (az_w (az_w (az_w u 82 0 (znum T m (znx T m e) 5)) 82 1 (znum T m (znx T m (znx T m e)) 9)) 82 2 (znum T m (znx T m (znx T m (znx T m e))) 20)) (nI (znx T m (znx T m (znx T m (znx T m (znx T m e)))))) ((zst3 T m (znx T m (znx T m (znx T m (znx T m e))))).1) (nI (zss T m (znx T m (znx T m (znx T m (znx T m e)))))) (zfg T m (znx T m (znx T m (znx T m (znx T m e)))))) 60 (zsettle c (znum T m (znx T m e) 5) (znum T m (znx T m (znx T m e)) 9) (znum T m (znx T m (znx T m (znx T m e))) 20))), la)
                    refine A_iload_n dX8_statement_81 rfl rfl ?_
                    have hz := (zstm_p h_1' h7).trans (zper_4 hn1 hn2 hn3)
                    refine A_zret dX8_statement_82 rfl (rfl) (hP _ _ ⟨by rw [hz]; rfl, (az_w (az_w (az_w u 82 0 (znum T m (znx T m e) 5)) 82 1 (znum T m (znx T m (znx T m e)) 9)) 82 2 (znum T m (znx T m (znx T m (znx T m e))) 20)), (nI (znx T m (znx T m (znx T m (znx T m (znx T m e)))))), ((zst3 T m (znx T m (znx T m (znx T m (znx T m e))))).1), (nI (zss T m (znx T m (znx T m (znx T m (znx T m e)))))), (zfg T m (znx T m (znx T m (znx T m (znx T m e))))), ((((sC.rf u).wk (by decide) _ _).wk (by decide) _ _).wk (by decide) _ _), ((az_w_ne (by decide)).trans ((az_w_ne (by decide)).trans ((az_w_ne (by decide)).trans hT))), ((congrFun (az_w_ne (by decide)) 7).trans ((congrFun (az_w_ne (by decide)) 7).trans ((congrFun (az_w_ne (by decide)) 7).trans hm))), by rw [az_w_ne (by decide), az_w_ne (by decide), az_w_ne (by decide)], ?_, (fun _ => by rw [hz]), (fun q => by rw [hz] at q; cases q)⟩)
                    rw [hz]
