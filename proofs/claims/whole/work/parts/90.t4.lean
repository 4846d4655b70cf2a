set_option maxHeartbeats 1000000 in
set_option maxRecDepth 100000 in
theorem r_tells_y (l : Launch) (G : az_Gh) (d : Nat) (sh : List az_Sh) (u : Nat → Nat → Int32) (la : Nat → Nat → Int64) (kp tr : Option Nat) (c : CT) (T : Nat → Int32) (m e : Nat) (most : Int32) (hM : az_at sh 60 (lyM 60 kp tr)) (hT : u 75 = T) (hm : u 60 7 = nI m) (hm2 : m ≤ 250) (he : e ≤ m) (hO : cOk c) (hM9 : most ≤ 999) (hn : ¬ znum T m (znx T m e) most = -1) : FM l G (d + 3) mX8_tells [.ref 60, .int 0, .int most] (sh, (mput (mTk u (nI (znx T m e)) (zst3 T m e).1 (nI (zss T m e)) (zfg T m e)) 60 c), la) (some (.int 1)) (sh, mput (mTk (az_w u 82 0 (znum T m (znx T m e) most)) (nI (znx T m (znx T m (znx T m e)))) (zst3 T m (znx T m (znx T m e))).1 (nI (zss T m (znx T m (znx T m e)))) (zfg T m (znx T m (znx T m e)))) 60 c, la) := by
  refine az_fm knX8_tells (Nat.le_of_ble_eq_true rfl) rfl (fun Post hP => ?_)
  show AW l G mX8_tells (d + 3) (az_F G Post) 0 0 0 [some (.ref 60), some (.int 0), some (.int most)] [] (sh, (mput (mTk u (nI (znx T m e)) (zst3 T m e).1 (nI (zss T m e)) (zfg T m e)) 60 c), la)
  refine A_aload_n dX8_tells_0 rfl rfl ?_
  refine A_callV (n := 0) dX8_tells_1 kvX8_look mlX8_183 rfl (az_rc_obj clX8 (hM 0 _ rfl)) (r_look l G (d + 1) sh u la kp tr c T m (znx T m e) ((zst3 T m e).1) (nI (zss T m e)) (zfg T m e) hM hO hT hm hm2 (znx_le he)) (by omega) (Nat.le_refl _) (Nat.le_refl _) rfl (Nat.le_of_ble_eq_true rfl) (fun r S1 hp => ?_)
  obtain ⟨rfl, rfl⟩ := hp
  show AW l G mX8_tells (d + 3) (az_F G Post) 0 0 4 [some (.ref 60), some (.int 0), some (.int most)] [] (sh, (mput (mTk u (nI (znx T m (znx T m e))) ((zst3 T m (znx T m e)).1) (nI (zss T m (znx T m e))) (zfg T m (znx T m e))) 60 c), la)
  refine A_aload_n dX8_tells_4 rfl rfl ?_
  refine A_iconst (v := 0) dX8_tells_5 (by decide) ?_
  refine A_iload_n dX8_tells_6 rfl rfl ?_
  refine A_iload_n dX8_tells_7 rfl rfl ?_
  refine A_callV (n := 0) dX8_tells_8 kvX8_number mlX8_186 rfl (az_rc_obj clX8 (hM 0 _ rfl)) (r_number_y l G d sh u la kp tr c T m (znx T m e) 0 most hM hT hm hm2 (znx_le he) hO (by decide) hM9 hn) (by omega) (Nat.le_refl _) (Nat.le_refl _) rfl (Nat.le_of_ble_eq_true rfl) (fun r S1 hp => ?_)
  obtain ⟨rfl, rfl⟩ := hp
  show AW l G mX8_tells (d + 3) (az_F G Post) 0 0 11 [some (.ref 60), some (.int 0), some (.int most)] [.int 1] (sh, (mput (mTk (az_w u 82 0 (znum T m (znx T m e) most)) (nI (znx T m (znx T m (znx T m e)))) ((zst3 T m (znx T m (znx T m e))).1) (nI (zss T m (znx T m (znx T m e)))) (zfg T m (znx T m (znx T m e)))) 60 c), la)
  refine A_zret dX8_tells_11 rfl (rfl) (az_pi hP ?_ (rfl))
  rfl
set_option maxHeartbeats 1000000 in
set_option maxRecDepth 100000 in
theorem r_tells_n (l : Launch) (G : az_Gh) (d : Nat) (sh : List az_Sh) (u : Nat → Nat → Int32) (la : Nat → Nat → Int64) (kp tr : Option Nat) (c : CT) (T : Nat → Int32) (m e : Nat) (most : Int32) (hM : az_at sh 60 (lyM 60 kp tr)) (hT : u 75 = T) (hm : u 60 7 = nI m) (hm2 : m ≤ 250) (he : e ≤ m) (hO : cOk c) (hM9 : most ≤ 999) (hn : znum T m (znx T m e) most = -1) : FM l G (d + 3) mX8_tells [.ref 60, .int 0, .int most] (sh, (mput (mTk u (nI (znx T m e)) (zst3 T m e).1 (nI (zss T m e)) (zfg T m e)) 60 c), la) (some (.int 0)) (sh, mput (mTk (az_w u 60 27 (nI (zss T m (znx T m e)))) (nI (znx T m (znx T m e))) (zst3 T m (znx T m e)).1 (nI (zss T m (znx T m e))) (zfg T m (znx T m e))) 60 c, la) := by
  refine az_fm knX8_tells (Nat.le_of_ble_eq_true rfl) rfl (fun Post hP => ?_)
  show AW l G mX8_tells (d + 3) (az_F G Post) 0 0 0 [some (.ref 60), some (.int 0), some (.int most)] [] (sh, (mput (mTk u (nI (znx T m e)) (zst3 T m e).1 (nI (zss T m e)) (zfg T m e)) 60 c), la)
  refine A_aload_n dX8_tells_0 rfl rfl ?_
  refine A_callV (n := 0) dX8_tells_1 kvX8_look mlX8_183 rfl (az_rc_obj clX8 (hM 0 _ rfl)) (r_look l G (d + 1) sh u la kp tr c T m (znx T m e) ((zst3 T m e).1) (nI (zss T m e)) (zfg T m e) hM hO hT hm hm2 (znx_le he)) (by omega) (Nat.le_refl _) (Nat.le_refl _) rfl (Nat.le_of_ble_eq_true rfl) (fun r S1 hp => ?_)
  obtain ⟨rfl, rfl⟩ := hp
  show AW l G mX8_tells (d + 3) (az_F G Post) 0 0 4 [some (.ref 60), some (.int 0), some (.int most)] [] (sh, (mput (mTk u (nI (znx T m (znx T m e))) ((zst3 T m (znx T m e)).1) (nI (zss T m (znx T m e))) (zfg T m (znx T m e))) 60 c), la)
  refine A_aload_n dX8_tells_4 rfl rfl ?_
  refine A_iconst (v := 0) dX8_tells_5 (by decide) ?_
  refine A_iload_n dX8_tells_6 rfl rfl ?_
  refine A_iload_n dX8_tells_7 rfl rfl ?_
  refine A_callV (n := 0) dX8_tells_8 kvX8_number mlX8_186 rfl (az_rc_obj clX8 (hM 0 _ rfl)) (r_number_n l G d sh u la kp tr c T m (znx T m e) 0 most hM hT hm hm2 (znx_le he) hO (by decide) hM9 hn) (by omega) (Nat.le_refl _) (Nat.le_refl _) rfl (Nat.le_of_ble_eq_true rfl) (fun r S1 hp => ?_)
  obtain ⟨rfl, rfl⟩ := hp
  show AW l G mX8_tells (d + 3) (az_F G Post) 0 0 11 [some (.ref 60), some (.int 0), some (.int most)] [.int 0] (sh, (mput (mTk (az_w u 60 27 (nI (zss T m (znx T m e)))) (nI (znx T m (znx T m e))) ((zst3 T m (znx T m e)).1) (nI (zss T m (znx T m e))) (zfg T m (znx T m e))) 60 c), la)
  refine A_zret dX8_tells_11 rfl (rfl) (az_pi hP ?_ (rfl))
  rfl
