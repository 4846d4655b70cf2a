theorem fed_r {s : Nat} (h : s < 6) : ([some (some (60 + 27)), some (some (60 + 28)), some (some (60 + 29)), some (some (60 + 30)), some (some (60 + 31)), some (some (60 + 32))] : List (Option (Option Nat)))[s]? = some (some (some (87 + s))) := by
  have hk : s = 0 ∨ s = 1 ∨ s = 2 ∨ s = 3 ∨ s = 4 ∨ s = 5 := by omega
  rcases hk with rfl | rfl | rfl | rfl | rfl | rfl <;> rfl
theorem lyM_fed {sh : List az_Sh} {kp tr : Option Nat} (h : az_at sh 60 (lyM 60 kp tr)) {s : Nat} (hs : s < 6) : sh[87 + s]? = some (100, 8, []) := by
  have hk : s = 0 ∨ s = 1 ∨ s = 2 ∨ s = 3 ∨ s = 4 ∨ s = 5 := by omega
  rcases hk with rfl | rfl | rfl | rfl | rfl | rfl
  · exact h 27 _ rfl
  · exact h 28 _ rfl
  · exact h 29 _ rfl
  · exact h 30 _ rfl
  · exact h 31 _ rfl
  · exact h 32 _ rfl
def sF (t : Nat) (u v : Nat → Nat → Int32) : Prop := (∀ k, k ≠ 60 → (k < 87 ∨ 87 + t < k) → v k = u k) ∧ ∀ j, j ≠ 39 → j ≠ 40 → v 60 j = u 60 j
theorem sF.rf (t : Nat) (u : Nat → Nat → Int32) : sF t u u := ⟨fun _ _ _ => rfl, fun _ _ _ => rfl⟩
theorem sF.w {t : Nat} {u v : Nat → Nat → Int32} (h : sF t u v) {j : Nat} (hj : j = 39 ∨ j = 40) (x : Int32) : sF t u (az_w v 60 j x) := ⟨fun k a b => by rw [az_w_ne a]; exact h.1 k a b, fun i a b => by rw [az_w_nj (by omega)]; exact h.2 i a b⟩
theorem sF.step {t : Nat} {u v w : Nat → Nat → Int32} (h : sF (t + 1) u v) (f : Nat → Int32) (h2 : sF t (va_up v (87 + (t + 1)) f) w) : sF (t + 1) u w := by
  refine ⟨fun k a b => ?_, fun j a b => ?_⟩
  · rw [h2.1 k a (by omega), az_up_ne (by omega)]; exact h.1 k a b
  · rw [h2.2 j a b, az_up_ne (by omega)]; exact h.2 j a b
theorem sFall_id (c : CT) : c = sFall c (cFall c) := rfl
theorem fans_back (c : CT) (x y : Int32) : sFe (sAir (sFall (zcool 1 (sFall c x)) y) (cAir c)) (fa_fill (cFe c) (cFe (zcool 1 (sFall c x))) (cN c)) = sFall c y := by
  have e : fa_fill (cFe c) (cFe (zcool 1 (sFall c x))) (cN c) = cFe c := by
    funext j
    by_cases q : j < cN c
    · rw [fa_fill_in q]
    · rw [fa_fill_out (by omega)]
      show (if j < cN c then mx0 (cFe c j - 1) else cFe c j) = cFe c j
      rw [if_neg q]
  rw [e]; rfl
def RF (sh : List az_Sh) (u : Nat → Nat → Int32) (la : Nat → Nat → Int64) (t : Nat) (w : Bool) (c : CT) : Option Value → az_St → Prop := fun r S1 => r = none ∧ ∃ u2 y, sF t u u2 ∧ u2 60 39 = u 60 39 + rS t w c ∧ u2 60 40 = u 60 40 + rV t c ∧ S1 = (sh, mput u2 60 (sFall c y), la)
theorem rS_0 (w : Bool) (c : CT) : rS 0 w c = b2i ((w || zso c) = true) := rfl
theorem rV_0 (c : CT) : rV 0 c = cAir c := rfl
theorem rS_1 (t : Nat) (w : Bool) (c : CT) : rS (t + 1) w c = zsI (fun f => rS t (w || zso c) (zcool 1 (sFall c (nI f)))) 4 := rfl
theorem rV_1 (t : Nat) (c : CT) : rV (t + 1) c = zsI (fun f => rV t (zcool 1 (sFall c (nI f)))) 4 := rfl
theorem zsI_1 (F : Nat → Int32) (i : Nat) : zsI F (i + 1) = zsI F i + F i := rfl
theorem fb_0 (e : CT) (y a : Int32) : sAir (sFall e y) a = sFe (sAir (sFall e y) a) (cFe e) := rfl
theorem fb_1 (e : CT) (g : Nat → Int32) (p : Nat) (x : Int32) : sFe (sFe e g) (va_up (cFe (sFe e g)) p x) = sFe e (va_up g p x) := rfl
theorem fb_p (c : CT) (x y a : Int32) (g : Nat → Int32) : cPp (sFe (sAir (sFall (zcool 1 (sFall c x)) y) a) g) = cPp c := rfl
theorem fb_q (c : CT) (x : Int32) : cPp (sFall c x) = cPp c := rfl
theorem cOk_cool1 {c : CT} (h : cOk c) : cOk (zcool 1 c) := h
theorem cLv_cool1 {c : CT} (h : cLv c) : cLv (zcool 1 c) := cLv_days h 1
set_option maxHeartbeats 1000000 in
set_option maxRecDepth 100000 in
theorem r_fans (l : Launch) (G : az_Gh) (d : Nat) (sh : List az_Sh) (la : Nat → Nat → Int64) (kp tr : Option Nat) (hM : az_at sh 60 (lyM 60 kp tr)) : ∀ (t : Nat) (u : Nat → Nat → Int32) (w : Bool) (c : CT), t ≤ 5 → cOk c → cLv c → AM l G (d + (t + 4)) mX8_fans [.ref 60, .int (nI t), .int (b2i (w = true))] (sh, mput u 60 c, la) 0 0 (RF sh u la t w c) := by
  intro t
  induction t with
  | zero =>
    intro u w c ht hO hL
    refine az_am knX8_fans (Nat.le_of_ble_eq_true rfl) rfl (fun Post hP => ?_)
    show AW l G mX8_fans (d + 4) (az_F G Post) 0 0 0 [some (.ref 60), some (.int (nI 0)), some (.int (b2i (w = true))), none, none, none, none] [] (sh, mput u 60 c, la)
    have h8 := hO.2
    have tail : AW l G mX8_fans (d + 4) (az_F G Post) 0 0 16 [some (.ref 60), some (.int (nI 0)), some (.int (b2i (w = true))), none, none, none, none] [.int (b2i ((w || zso c) = true))] (sh, mput u 60 c, la) := by
      refine A_istore_n (lo2 := [some (.ref 60), some (.int (nI 0)), some (.int (b2i (w = true))), some (.int (b2i ((w || zso c) = true))), none, none, none]) dX8_fans_16 rfl (by decide) rfl ?_
      refine A_iload_n dX8_fans_17 rfl rfl ?_
      refine A_if_ne (tgt := 53) dX8_fans_18 rfl (fun h_1 => absurd rfl h_1) (fun h_1 => ?_)
      refine A_aload_n dX8_fans_21 rfl rfl ?_
      refine A_dup dX8_fans_22 rfl ?_
      refine B_getV (u 60 39) dX8_fans_23 flX8_336 (hM 0 _ rfl) rfl (mput_f rfl) ?_
      have t35 : AW l G mX8_fans (d + 4) (az_F G Post) 0 0 35 [some (.ref 60), some (.int (nI 0)), some (.int (b2i (w = true))), some (.int (b2i ((w || zso c) = true))), none, none, none] [.int (b2i ((w || zso c) = true)), .int (u 60 39), .ref 60] (sh, mput u 60 c, la) := by
        refine A_iadd dX8_fans_35 ?_
        refine B_putI dX8_fans_36 fwX8_336 (hM 0 _ rfl) rfl ?_
        refine B_sg (show _ = mput (az_w u 60 39 (u 60 39 + (b2i ((w || zso c) = true)))) 60 c from mput_wj rfl) ?_
        refine A_aload_n dX8_fans_39 rfl rfl ?_
        refine A_dup dX8_fans_40 rfl ?_
        refine B_getV (u 60 40) dX8_fans_41 flX8_339 (hM 0 _ rfl) rfl ((mput_f rfl).trans (az_w_nj (by decide))) ?_
        refine A_aload_n dX8_fans_44 rfl rfl ?_
        refine B_getV (cAir c) dX8_fans_45 flX8_37 (hM 0 _ rfl) rfl (mr_9 _ _ _) ?_
        refine A_iadd dX8_fans_48 ?_
        refine B_putI dX8_fans_49 fwX8_339 (hM 0 _ rfl) rfl ?_
        refine B_sg (show _ = mput (az_w (az_w u 60 39 (u 60 39 + (b2i ((w || zso c) = true)))) 60 40 (u 60 40 + cAir c)) 60 c from mput_wj rfl) ?_
        exact A_vret dX8_fans_52 rfl (hP _ _ ⟨rfl, _, cFall c, ((sF.rf 0 u).w (Or.inl rfl) _).w (Or.inr rfl) _, ((az_w_nj (by decide)).trans (az_w_at _ _ _ _)).trans (by rw [rS_0]), (az_w_at _ _ _ _).trans (by rw [rV_0]), rfl⟩)
      refine A_iload_n dX8_fans_26 rfl rfl ?_
      refine A_if_eq (tgt := 34) dX8_fans_27 rfl (fun h_2 => ?_) (fun h_2 => ?_)
      · skip
        refine A_iconst (v := 0) dX8_fans_34 (by decide) ?_
        refine B_top h_2.symm ?_
        exact t35
      · skip
        refine A_iconst (v := 1) dX8_fans_30 (by decide) ?_
        refine A_goto (tgt := 35) dX8_fans_31 rfl ?_
        refine B_top (show (1 : Int32) = (b2i ((w || zso c) = true)) from (if_pos (b2i_n.mp h_2)).symm) ?_
        exact t35
    refine A_iload_n dX8_fans_0 rfl rfl ?_
    refine A_if_ne (tgt := 11) dX8_fans_1 rfl (fun h_9 => ?_) (fun h_9 => ?_)
    · skip
      have hw := b2i_n.mp h_9
      refine A_iconst (v := 1) dX8_fans_11 (by decide) ?_
      refine A_goto (tgt := 16) dX8_fans_12 rfl ?_
      refine B_top (show (1 : Int32) = (b2i ((w || zso c) = true)) from (if_pos (by rw [hw]; rfl)).symm) ?_
      exact tail
    · skip
      have hw := Bool.eq_false_iff.mpr (b2i_0.mp h_9)
      refine A_aload_n dX8_fans_4 rfl rfl ?_
      refine A_callV (n := 0) dX8_fans_5 kvX8_isSoNow mlX8_244 rfl (az_rc_obj clX8 (hM 0 _ rfl)) (r_isSoNow l G d sh u la kp tr c hM hO hL) (by omega) (Nat.le_refl _) (Nat.le_refl _) rfl (Nat.le_of_ble_eq_true rfl) (fun r S1 hp => ?_)
      obtain ⟨rfl, rfl⟩ := hp
      show AW l G mX8_fans (d + 4) (az_F G Post) 0 0 8 [some (.ref 60), some (.int (nI 0)), some (.int (b2i (w = true))), none, none, none, none] [.int (b2i (zso c = true))] (sh, mput u 60 c, la)
      refine A_if_eq (tgt := 15) dX8_fans_8 rfl (fun h_8 => ?_) (fun h_8 => ?_)
      · skip
        refine A_iconst (v := 0) dX8_fans_15 (by decide) ?_
        refine B_top (show (0 : Int32) = (b2i ((w || zso c) = true)) from (b2i_0.mpr (by rw [hw, Bool.false_or]; exact b2i_0.mp h_8)).symm) ?_
        exact tail
      · skip
        refine A_iconst (v := 1) dX8_fans_11 (by decide) ?_
        refine A_goto (tgt := 16) dX8_fans_12 rfl ?_
        refine B_top (show (1 : Int32) = (b2i ((w || zso c) = true)) from (if_pos (by rw [b2i_n.mp h_8, Bool.or_true])).symm) ?_
        exact tail
  | succ t ih =>
    intro u w c ht hO hL
    refine az_am knX8_fans (Nat.le_of_ble_eq_true rfl) rfl (fun Post hP => ?_)
    show AW l G mX8_fans (d + (t + 1 + 4)) (az_F G Post) 0 0 0 [some (.ref 60), some (.int (nI (t + 1))), some (.int (b2i (w = true))), none, none, none, none] [] (sh, mput u 60 c, la)
    have h8 := hO.2
    have tail : AW l G mX8_fans (d + (t + 1 + 4)) (az_F G Post) 0 0 16 [some (.ref 60), some (.int (nI (t + 1))), some (.int (b2i (w = true))), none, none, none, none] [.int (b2i ((w || zso c) = true))] (sh, mput u 60 c, la) := by
      refine A_istore_n (lo2 := [some (.ref 60), some (.int (nI (t + 1))), some (.int (b2i (w = true))), some (.int (b2i ((w || zso c) = true))), none, none, none]) dX8_fans_16 rfl (by decide) rfl ?_
      refine A_iload_n dX8_fans_17 rfl rfl ?_
      refine A_if_ne (tgt := 53) dX8_fans_18 rfl (fun h_1 => ?_) (fun h_1 => absurd h_1 (nI_ne0 (by omega) (by omega)))
      have hfr : sh[87 + (t + 1)]? = some (100, 8, []) := lyM_fed hM (by omega)
      refine A_aload_n dX8_fans_53 rfl rfl ?_
      refine B_getV (cAir c) dX8_fans_54 flX8_37 (hM 0 _ rfl) rfl (mr_9 _ _ _) ?_
      refine A_istore (lo2 := [some (.ref 60), some (.int (nI (t + 1))), some (.int (b2i (w = true))), some (.int (b2i ((w || zso c) = true))), some (.int (cAir c)), none, none]) dX8_fans_57 (by decide) rfl ?_
      refine A_iconst (v := 0) dX8_fans_59 (by decide) ?_
      refine A_istore (lo2 := [some (.ref 60), some (.int (nI (t + 1))), some (.int (b2i (w = true))), some (.int (b2i ((w || zso c) = true))), some (.int (cAir c)), some (.int (nI 0)), none]) dX8_fans_60 (by decide) rfl ?_
      have loop : ∀ (q f : Nat) (v : Nat → Nat → Int32) (y : Int32), f + q = 4 → sF (t + 1) u v → v 60 39 = u 60 39 + zsI (fun f => rS t (w || zso c) (zcool 1 (sFall c (nI f)))) f → v 60 40 = u 60 40 + zsI (fun f => rV t (zcool 1 (sFall c (nI f)))) f → AW l G mX8_fans (d + (t + 1 + 4)) (az_F G Post) 0 0 62 [some (.ref 60), some (.int (nI (t + 1))), some (.int (b2i (w = true))), some (.int (b2i ((w || zso c) = true))), some (.int (cAir c)), some (.int (nI f)), none] [] (sh, mput v 60 (sFall c y), la) := by
        intro q
        induction q with
        | zero =>
          intro f v y hf hs e39 e40
          have ef : f = 4 := by omega
          subst ef
          refine A_iload dX8_fans_62 rfl ?_
          refine A_iconst (v := 3) dX8_fans_64 (by decide) ?_
          refine A_icmp_gt (tgt := 166) dX8_fans_65 rfl (fun h_2 => ?_) (fun h_2 => absurd (by decide) h_2)
          exact A_vret dX8_fans_166 rfl (hP _ _ ⟨rfl, v, y, hs, by rw [rS_1]; exact e39, by rw [rV_1]; exact e40, rfl⟩)
        | succ q ihq =>
          intro f v y hf hs e39 e40
          refine A_iload dX8_fans_62 rfl ?_
          refine A_iconst (v := 3) dX8_fans_64 (by decide) ?_
          refine A_icmp_gt (tgt := 166) dX8_fans_65 rfl (fun h_2 => absurd (show nI 3 < nI f from h_2) (nI_nlt (by omega) (by omega))) (fun h_2 => ?_)
          refine A_aload_n dX8_fans_68 rfl rfl ?_
          refine A_iload dX8_fans_69 rfl ?_
          refine B_putI dX8_fans_71 fwX8_41 (hM 0 _ rfl) rfl ?_
          refine B_sg (show _ = mput v 60 (sFall c (nI f)) from (mw_10 _ _ _ _).trans (congrArg (mput v 60) (ss_Fall _ _ _))) ?_
          refine A_iconst (v := 0) dX8_fans_74 (by decide) ?_
          refine A_istore (lo2 := [some (.ref 60), some (.int (nI (t + 1))), some (.int (b2i (w = true))), some (.int (b2i ((w || zso c) = true))), some (.int (cAir c)), some (.int (nI f)), some (.int (nI 0))]) dX8_fans_75 (by decide) rfl ?_
          refine B_sg (congrArg (fun z => mput z 60 (sFall c (nI f))) (show v = (va_up v (87 + (t + 1)) (fa_fill (cFe c) (v (87 + (t + 1))) 0)) by rw [fa_fill_0, az_up_id])) ?_
          have rest : AW l G mX8_fans (d + (t + 1 + 4)) (az_F G Post) 0 0 108 [some (.ref 60), some (.int (nI (t + 1))), some (.int (b2i (w = true))), some (.int (b2i ((w || zso c) = true))), some (.int (cAir c)), some (.int (nI f)), some (.int (nI (cN c)))] [] (sh, mput (va_up v (87 + (t + 1)) (fa_fill (cFe c) (v (87 + (t + 1))) (cN c))) 60 (sFall c (nI f)), la) := by
            refine A_aload_n dX8_fans_108 rfl rfl ?_
            refine A_callV (n := 0) dX8_fans_109 kvX8_cools mlX8_259 rfl (az_rc_obj clX8 (hM 0 _ rfl)) (r_cools l G (d + (t + 3)) sh (va_up v (87 + (t + 1)) (fa_fill (cFe c) (v (87 + (t + 1))) (cN c))) la kp tr (sFall c (nI f)) hM (co_Fall hO)) (by omega) (Nat.le_refl _) (Nat.le_refl _) rfl (Nat.le_of_ble_eq_true rfl) (fun r S1 hp => ?_)
            obtain ⟨rfl, rfl⟩ := hp
            show AW l G mX8_fans (d + (t + 1 + 4)) (az_F G Post) 0 0 112 [some (.ref 60), some (.int (nI (t + 1))), some (.int (b2i (w = true))), some (.int (b2i ((w || zso c) = true))), some (.int (cAir c)), some (.int (nI f)), some (.int (nI (cN c)))] [] (sh, mput (va_up v (87 + (t + 1)) (fa_fill (cFe c) (v (87 + (t + 1))) (cN c))) 60 (zcool 1 (sFall c (nI f))), la)
            refine A_aload_n dX8_fans_112 rfl rfl ?_
            refine A_iload_n dX8_fans_113 rfl rfl ?_
            refine A_iconst (v := 1) dX8_fans_114 (by decide) ?_
            refine A_isub dX8_fans_115 ?_
            refine B_top (nI_pred t) ?_
            refine A_iload_n dX8_fans_116 rfl rfl ?_
            refine A_callV (n := 0) dX8_fans_117 kvX8_fans mlX8_342 rfl (az_rc_obj clX8 (hM 0 _ rfl)) (ih (va_up v (87 + (t + 1)) (fa_fill (cFe c) (v (87 + (t + 1))) (cN c))) (w || zso c) (zcool 1 (sFall c (nI f))) (by omega) (cOk_cool1 (co_Fall hO)) (cLv_cool1 (cv_Fall hL))) (by omega) (Nat.le_refl _) (Nat.le_refl _) rfl (Nat.le_of_ble_eq_true rfl) (fun r S1 hp => ?_)
            obtain ⟨rfl, u2, y2, hs2, d39, d40, rfl⟩ := hp
            show AW l G mX8_fans (d + (t + 1 + 4)) (az_F G Post) 0 0 120 [some (.ref 60), some (.int (nI (t + 1))), some (.int (b2i (w = true))), some (.int (b2i ((w || zso c) = true))), some (.int (cAir c)), some (.int (nI f)), some (.int (nI (cN c)))] [] (sh, mput u2 60 (sFall (zcool 1 (sFall c (nI f))) y2), la)
            have hs3 := hs.step _ hs2
            have hrow : ∀ p, p < cN c → u2 (87 + (t + 1)) p = cFe c p := fun p hp => (congrFun ((hs2.1 _ (by omega) (by omega)).trans az_up_self) p).trans (fa_fill_in hp)
            have f39 : u2 60 39 = u 60 39 + zsI (fun f => rS t (w || zso c) (zcool 1 (sFall c (nI f)))) (f + 1) := by rw [d39, az_up_ne (by omega), e39, Int32.add_assoc, zsI_1]
            have f40 : u2 60 40 = u 60 40 + zsI (fun f => rV t (zcool 1 (sFall c (nI f)))) (f + 1) := by rw [d40, az_up_ne (by omega), e40, Int32.add_assoc, zsI_1]
            refine A_aload_n dX8_fans_120 rfl rfl ?_
            refine A_iload dX8_fans_121 rfl ?_
            refine B_putI dX8_fans_123 fwX8_37 (hM 0 _ rfl) rfl ?_
            refine B_sg (show _ = mput u2 60 (sAir (sFall (zcool 1 (sFall c (nI f))) y2) (cAir c)) from mw_9 _ _ _ _) ?_
            refine A_iconst (v := 0) dX8_fans_126 (by decide) ?_
            refine A_istore (lo2 := [some (.ref 60), some (.int (nI (t + 1))), some (.int (b2i (w = true))), some (.int (b2i ((w || zso c) = true))), some (.int (cAir c)), some (.int (nI f)), some (.int (nI 0))]) dX8_fans_127 (by decide) rfl ?_
            refine B_sg (congrArg (mput u2 60) (show (sAir (sFall (zcool 1 (sFall c (nI f))) y2) (cAir c)) = (sFe (sAir (sFall (zcool 1 (sFall c (nI f))) y2) (cAir c)) (fa_fill (cFe c) (cFe (zcool 1 (sFall c (nI f)))) 0)) by rw [fa_fill_0]; exact fb_0 _ _ _)) ?_
            have back : ∀ q2 p : Nat, p + q2 = cN c → AW l G mX8_fans (d + (t + 1 + 4)) (az_F G Post) 0 0 129 [some (.ref 60), some (.int (nI (t + 1))), some (.int (b2i (w = true))), some (.int (b2i ((w || zso c) = true))), some (.int (cAir c)), some (.int (nI f)), some (.int (nI p))] [] (sh, mput u2 60 (sFe (sAir (sFall (zcool 1 (sFall c (nI f))) y2) (cAir c)) (fa_fill (cFe c) (cFe (zcool 1 (sFall c (nI f)))) p)), la) := by
              intro q2
              induction q2 with
              | zero =>
                intro p hp
                have ep : p = cN c := by omega
                subst ep
                refine A_iload dX8_fans_129 rfl ?_
                refine A_aload_n dX8_fans_131 rfl rfl ?_
                refine B_getV (nI (cN c)) dX8_fans_132 flX8_88 (hM 0 _ rfl) rfl ((mr_14 _ _ _).trans ((fb_p _ _ _ _ _).trans hO.1)) ?_
                refine A_icmp_ge (tgt := 160) dX8_fans_135 rfl (fun h_3 => ?_) (fun h_3 => absurd (Int32.le_refl _) h_3)
                refine A_iinc (v := nI (f + 1)) (lo2 := [some (.ref 60), some (.int (nI (t + 1))), some (.int (b2i (w = true))), some (.int (b2i ((w || zso c) = true))), some (.int (cAir c)), some (.int (nI (f + 1))), some (.int (nI (cN c)))]) dX8_fans_160 rfl (nI_1 _) (by decide) rfl ?_
                refine A_goto (tgt := 62) dX8_fans_163 rfl ?_
                refine A_forget (lo2 := [some (.ref 60), some (.int (nI (t + 1))), some (.int (b2i (w = true))), some (.int (b2i ((w || zso c) = true))), some (.int (cAir c)), some (.int (nI (f + 1))), none]) ⟨rfl, rfl, rfl, rfl, rfl, rfl, trivial⟩ ?_
                refine B_sg (congrArg (mput u2 60) (fans_back c (nI f) y2)) ?_
                exact ihq (f + 1) u2 y2 (by omega) hs3 f39 f40
              | succ q2 ih2 =>
                intro p hp
                refine A_iload dX8_fans_129 rfl ?_
                refine A_aload_n dX8_fans_131 rfl rfl ?_
                refine B_getV (nI (cN c)) dX8_fans_132 flX8_88 (hM 0 _ rfl) rfl ((mr_14 _ _ _).trans ((fb_p _ _ _ _ _).trans hO.1)) ?_
                refine A_icmp_ge (tgt := 160) dX8_fans_135 rfl (fun h_3 => absurd h_3 (nI_ge (by omega) (by omega))) (fun h_3 => ?_)
                refine A_aload_n dX8_fans_138 rfl rfl ?_
                refine B_getR (r := 81) dX8_fans_139 flX8_62 (hM 0 _ rfl) rfl ?_
                refine A_iload dX8_fans_142 rfl ?_
                refine A_aload_n dX8_fans_144 rfl rfl ?_
                refine B_getR (r := 86) dX8_fans_145 flX8_85 (hM 0 _ rfl) rfl ?_
                refine A_iload_n dX8_fans_148 rfl rfl ?_
                refine B_aald (i := t + 1) (r := 87 + (t + 1)) dX8_fans_149 (hM 26 _ rfl) (by decide) rfl rfl (by decide) rfl (by omega) (fed_r (by omega)) ?_
                refine A_iload dX8_fans_150 rfl ?_
                refine B_ialdV (i := p) (cFe c p) dX8_fans_152 hfr (by decide) rfl (by omega) ((congrFun (mput_ne (by omega) (by omega)) _).trans (hrow p (by omega))) ?_
                refine B_iast (i := p) dX8_fans_153 (hM 21 _ rfl) (by decide) rfl (by omega) ?_
                refine B_sg (show _ = mput u2 60 (sFe (sAir (sFall (zcool 1 (sFall c (nI f))) y2) (cAir c)) (fa_fill (cFe c) (cFe (zcool 1 (sFall c (nI f)))) (p + 1))) from (mx_21 _ _ _ _ _).trans (congrArg (mput u2 60) ((fb_1 _ _ _ _).trans (congrArg (sFe (sAir (sFall (zcool 1 (sFall c (nI f))) y2) (cAir c))) (fa_fill_up (cFe c) (cFe (zcool 1 (sFall c (nI f)))) p))))) ?_
                refine A_iinc (v := nI (p + 1)) (lo2 := [some (.ref 60), some (.int (nI (t + 1))), some (.int (b2i (w = true))), some (.int (b2i ((w || zso c) = true))), some (.int (cAir c)), some (.int (nI f)), some (.int (nI (p + 1)))]) dX8_fans_154 rfl (nI_1 _) (by decide) rfl ?_
                refine A_goto (tgt := 129) dX8_fans_157 rfl ?_
                exact ih2 (p + 1) (by omega)
            exact back (cN c) 0 (by omega)
          have copy : ∀ q2 p : Nat, p + q2 = cN c → AW l G mX8_fans (d + (t + 1 + 4)) (az_F G Post) 0 0 77 [some (.ref 60), some (.int (nI (t + 1))), some (.int (b2i (w = true))), some (.int (b2i ((w || zso c) = true))), some (.int (cAir c)), some (.int (nI f)), some (.int (nI p))] [] (sh, mput (va_up v (87 + (t + 1)) (fa_fill (cFe c) (v (87 + (t + 1))) p)) 60 (sFall c (nI f)), la) := by
            intro q2
            induction q2 with
            | zero =>
              intro p hp
              have ep : p = cN c := by omega
              subst ep
              refine A_iload dX8_fans_77 rfl ?_
              refine A_aload_n dX8_fans_79 rfl rfl ?_
              refine B_getV (nI (cN c)) dX8_fans_80 flX8_88 (hM 0 _ rfl) rfl ((mr_14 _ _ _).trans ((fb_q _ _).trans hO.1)) ?_
              refine A_icmp_ge (tgt := 108) dX8_fans_83 rfl (fun h_3 => ?_) (fun h_3 => absurd (Int32.le_refl _) h_3)
              exact rest
            | succ q2 ih2 =>
              intro p hp
              refine A_iload dX8_fans_77 rfl ?_
              refine A_aload_n dX8_fans_79 rfl rfl ?_
              refine B_getV (nI (cN c)) dX8_fans_80 flX8_88 (hM 0 _ rfl) rfl ((mr_14 _ _ _).trans ((fb_q _ _).trans hO.1)) ?_
              refine A_icmp_ge (tgt := 108) dX8_fans_83 rfl (fun h_3 => absurd h_3 (nI_ge (by omega) (by omega))) (fun h_3 => ?_)
              refine A_aload_n dX8_fans_86 rfl rfl ?_
              refine B_getR (r := 86) dX8_fans_87 flX8_85 (hM 0 _ rfl) rfl ?_
              refine A_iload_n dX8_fans_90 rfl rfl ?_
              refine B_aald (i := t + 1) (r := 87 + (t + 1)) dX8_fans_91 (hM 26 _ rfl) (by decide) rfl rfl (by decide) rfl (by omega) (fed_r (by omega)) ?_
              refine A_iload dX8_fans_92 rfl ?_
              refine A_aload_n dX8_fans_94 rfl rfl ?_
              refine B_getR (r := 81) dX8_fans_95 flX8_62 (hM 0 _ rfl) rfl ?_
              refine A_iload dX8_fans_98 rfl ?_
              refine B_ialdV (i := p) (cFe c p) dX8_fans_100 (hM 21 _ rfl) (by decide) rfl (by omega) (me_21 _ _ _ _) ?_
              refine B_iast (i := p) dX8_fans_101 hfr (by decide) rfl (by omega) ?_
              refine B_sg (show _ = mput (va_up v (87 + (t + 1)) (fa_fill (cFe c) (v (87 + (t + 1))) (p + 1))) 60 (sFall c (nI f)) from (mput_wk (by omega) (by omega)).trans (congrArg (fun z => mput z 60 (sFall c (nI f))) ((az_w_up _ _ _ _ _).trans (congrArg (va_up v (87 + (t + 1))) (fa_fill_up _ _ _))))) ?_
              refine A_iinc (v := nI (p + 1)) (lo2 := [some (.ref 60), some (.int (nI (t + 1))), some (.int (b2i (w = true))), some (.int (b2i ((w || zso c) = true))), some (.int (cAir c)), some (.int (nI f)), some (.int (nI (p + 1)))]) dX8_fans_102 rfl (nI_1 _) (by decide) rfl ?_
              refine A_goto (tgt := 77) dX8_fans_105 rfl ?_
              exact ih2 (p + 1) (by omega)
          exact copy (cN c) 0 (by omega)
      exact loop 4 0 u (cFall c) (by omega) (sF.rf _ u) (Int32.add_zero _).symm (Int32.add_zero _).symm
    refine A_iload_n dX8_fans_0 rfl rfl ?_
    refine A_if_ne (tgt := 11) dX8_fans_1 rfl (fun h_9 => ?_) (fun h_9 => ?_)
    · skip
      have hw := b2i_n.mp h_9
      refine A_iconst (v := 1) dX8_fans_11 (by decide) ?_
      refine A_goto (tgt := 16) dX8_fans_12 rfl ?_
      refine B_top (show (1 : Int32) = (b2i ((w || zso c) = true)) from (if_pos (by rw [hw]; rfl)).symm) ?_
      exact tail
    · skip
      have hw := Bool.eq_false_iff.mpr (b2i_0.mp h_9)
      refine A_aload_n dX8_fans_4 rfl rfl ?_
      refine A_callV (n := 0) dX8_fans_5 kvX8_isSoNow mlX8_244 rfl (az_rc_obj clX8 (hM 0 _ rfl)) (r_isSoNow l G (d + (t + 1)) sh u la kp tr c hM hO hL) (by omega) (Nat.le_refl _) (Nat.le_refl _) rfl (Nat.le_of_ble_eq_true rfl) (fun r S1 hp => ?_)
      obtain ⟨rfl, rfl⟩ := hp
      show AW l G mX8_fans (d + (t + 1 + 4)) (az_F G Post) 0 0 8 [some (.ref 60), some (.int (nI (t + 1))), some (.int (b2i (w = true))), none, none, none, none] [.int (b2i (zso c = true))] (sh, mput u 60 c, la)
      refine A_if_eq (tgt := 15) dX8_fans_8 rfl (fun h_8 => ?_) (fun h_8 => ?_)
      · skip
        refine A_iconst (v := 0) dX8_fans_15 (by decide) ?_
        refine B_top (show (0 : Int32) = (b2i ((w || zso c) = true)) from (b2i_0.mpr (by rw [hw, Bool.false_or]; exact b2i_0.mp h_8)).symm) ?_
        exact tail
      · skip
        refine A_iconst (v := 1) dX8_fans_11 (by decide) ?_
        refine A_goto (tgt := 16) dX8_fans_12 rfl ?_
        refine B_top (show (1 : Int32) = (b2i ((w || zso c) = true)) from (if_pos (by rw [b2i_n.mp h_8, Bool.or_true])).symm) ?_
        exact tail
