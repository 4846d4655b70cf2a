theorem cr_Pp_AirFe {c : CT} {x0 : Int32} {x1 : Nat → Int32} : cPp (sFe (sAir c x0) x1) = cPp c := by rw [cs_PpFe, cs_PpAir]
theorem cr_Fe_AirFe {c : CT} {x0 : Int32} {x1 : Nat → Int32} : cFe (sFe (sAir c x0) x1) = x1 := by rw [cs_FeFe]
theorem cu_Fe_AirFe {c : CT} {x0 : Int32} {x1 : Nat → Int32} {i : Nat} {y : Int32} : sFe (sFe (sAir c x0) x1) (va_up (cFe (sFe (sAir c x0) x1)) i y) = (sFe (sAir c x0) (va_up x1 i y)) := by rw [cr_Fe_AirFe, ss_Fe]
theorem zc_k1 {c : CT} {p : Nat} (h : cKd c p = 1) : zc c p = mx0 (mx0 (40 - cAir c - cFe c p) - cAa c p) := by unfold zc zcT; rw [h]; exact zcold_1 _ _ _ _ _
theorem zc_k2 {c : CT} {p : Nat} (h : cKd c p = 2) : zc c p = mx0 (40 - cAir c - cFe c p) + cAa c p := by unfold zc zcT; rw [h]; exact zcold_2 _ _ _ _ _
theorem zc_k3 {c : CT} {p : Nat} (h : cKd c p = 3) : zc c p = mx0 (mx0 (mx0 (40 - cAir c - cFe c p) - cAa c p) - 2 * cBr c p) := by unfold zc zcT; rw [h]; exact zcold_3 _ _ _ _ _
theorem zc_k5 {c : CT} {p : Nat} (h : cKd c p = 5) : zc c p = mx0 (40 - cAir c - cFe c p) + 5 := by unfold zc zcT; rw [h]; exact zcold_5 _ _ _ _ _
theorem zc_k4 {c : CT} {p : Nat} (h : cKd c p = 4) (h2 : (if cKd c p = 4 then (1 : Int32) else 0) < cLov c) : zc c p = mx0 (mx0 (40 - cAir c - cFe c p) + cAa c p - 10) := by
  unfold zc zcT
  rw [decide_eq_true h2, h, zcold_4, if_pos rfl]
theorem zc_k4n {c : CT} {p : Nat} (h : cKd c p = 4) (h2 : ¬ (if cKd c p = 4 then (1 : Int32) else 0) < cLov c) : zc c p = mx0 (40 - cAir c - cFe c p) + cAa c p := by
  unfold zc zcT
  rw [decide_eq_false h2, h, zcold_4, if_neg (by decide)]
theorem zc_k0 {c : CT} {p : Nat} (hw : (cKd c p).toInt < 1 ∨ 5 < (cKd c p).toInt) : zc c p = mx0 (40 - cAir c - cFe c p) := by
  unfold zc zcT zcold
  rw [if_neg (az_ne hw 1 (by decide) (by decide)), if_neg (az_ne hw 2 (by decide) (by decide)), if_neg (az_ne hw 3 (by decide) (by decide)), if_neg (az_ne hw 4 (by decide) (by decide)), if_neg (az_ne hw 5 (by decide) (by decide))]
theorem zl_k {c : CT} {p : Nat} {v k : Int32} (h : cKd c p = k) (e : zlim k (cAa c p) (cPr c p) = v) : v = zl c (cPr c p) p := by unfold zl; rw [h]; exact e.symm
theorem zl_k0 {c : CT} {p : Nat} (hw : (cKd c p).toInt < 1 ∨ 5 < (cKd c p).toInt) : 10 + cPr c p = zl c (cPr c p) p := by
  unfold zl zlim
  rw [if_neg (az_ne hw 1 (by decide) (by decide)), if_neg (az_ne hw 2 (by decide) (by decide)), if_neg (az_ne hw 3 (by decide) (by decide)), if_neg (az_ne hw 4 (by decide) (by decide)), if_neg (az_ne hw 5 (by decide) (by decide))]
theorem zb_aw {c : CT} {i : Nat} (h : nI i = cAway c) : zb c (i + 1) = zb c i := if_pos h
theorem zb_g0 {c : CT} {i : Nat} (h : ¬ nI i = cAway c) (h0 : zb c i = none) : zb c (i + 1) = some i := by unfold zb; rw [if_neg h, h0]
theorem zb_g1 {c : CT} {i k : Nat} (h : ¬ nI i = cAway c) (h0 : zb c i = some k) (hc : zc c k < zc c i) : zb c (i + 1) = some i := by unfold zb; rw [if_neg h, h0]; exact if_pos hc
theorem zb_g2 {c : CT} {i k : Nat} (h : ¬ nI i = cAway c) (h0 : zb c i = some k) (hc : ¬ zc c k < zc c i) : zb c (i + 1) = some k := by unfold zb; rw [if_neg h, h0]; exact if_neg hc
theorem zb_na {c : CT} : ∀ (i k : Nat), zb c i = some k → ¬ nI k = cAway c
  | 0, k, h => by cases h
  | i + 1, k, h => by
    by_cases q : nI i = cAway c
    · rw [zb_aw q] at h; exact zb_na i k h
    · cases h0 : zb c i with
      | none => rw [zb_g0 q h0] at h; cases h; exact q
      | some m =>
        by_cases hc : zc c m < zc c i
        · rw [zb_g1 q h0 hc] at h; cases h; exact q
        · rw [zb_g2 q h0 hc] at h; exact (Option.some.inj h) ▸ zb_na i m h0
theorem cOk_days {c : CT} (h : cOk c) : ∀ k, cOk (zdays k c)
  | 0 => h
  | k + 1 => cOk_days h k
theorem cLv_days {c : CT} (h : cLv c) : ∀ k, cLv (zdays k c)
  | 0 => h
  | k + 1 => cLv_days h k
theorem cAw_days (c : CT) : ∀ k, cAway (zdays k c) = cAway c
  | 0 => rfl
  | k + 1 => cAw_days c k
def ccf (c : CT) (i : Nat) : Nat → Int32 := fun j => if j < i then mx0 (cFe c j - 1) else cFe c j
theorem ccf_0 (c : CT) : ccf c 0 = cFe c := funext fun j => if_neg (by omega)
theorem ccf_s (c : CT) (i : Nat) : va_up (ccf c i) i (mx0 (ccf c i i - 1)) = ccf c (i + 1) := by
  funext j
  have e : ccf c i i = cFe c i := if_neg (by omega)
  by_cases h : j = i
  · subst h; rw [az_up_self, e]; exact (if_pos (by omega)).symm
  · rw [az_up_ne h]
    unfold ccf
    by_cases q : j < i
    · rw [if_pos q, if_pos (by omega)]
    · rw [if_neg q, if_neg (by omega)]
theorem ccf_n (c : CT) : sFe (sAir c (mx0 (cAir c - cFall c))) (ccf c (cN c)) = zcool 1 c := by
  unfold zcool
  rw [Int32.one_mul]
  rfl
theorem fa_fill_up {α : Type} (f g : Nat → α) (i : Nat) : va_up (fa_fill f g i) i (f i) = fa_fill f g (i + 1) := by
  funext j
  by_cases h : j = i
  · subst h; rw [az_up_self]; exact (if_pos (by omega)).symm
  · rw [az_up_ne h]
    unfold fa_fill
    by_cases q : j < i
    · rw [if_pos q, if_pos (by omega)]
    · rw [if_neg q, if_neg (by omega)]
def mkp (u : Nat → Nat → Int32) (c : CT) : Nat → Nat → Int32 := va_up (az_w (az_w u 60 31 (cAir c)) 60 32 (cFall c)) 83 (fa_fill (cFe c) (u 83) (cN c))
/-- air, fall and chestnuts are kept -/
def kpt (u : Nat → Nat → Int32) (c : CT) : Prop := u 60 31 = cAir c ∧ u 60 32 = cFall c ∧ ∀ j, j < cN c → u 83 j = cFe c j
theorem kpt_kp (u : Nat → Nat → Int32) (c : CT) : kpt (mkp u c) c := by
  unfold mkp
  refine ⟨?_, ?_, fun j hj => ?_⟩
  · rw [az_up_ne (by decide), az_w_nj (by decide), az_w_at]
  · rw [az_up_ne (by decide), az_w_at]
  · rw [az_up_self]; exact fa_fill_in hj
theorem kpt_w {u : Nat → Nat → Int32} {c : CT} (h : kpt u c) {j : Nat} (hj : j ≠ 31 ∧ j ≠ 32) (x : Int32) : kpt (az_w u 60 j x) c := by
  refine ⟨?_, ?_, fun i hi => ?_⟩
  · rw [az_w_nj (Ne.symm hj.1)]; exact h.1
  · rw [az_w_nj (Ne.symm hj.2)]; exact h.2.1
  · rw [az_w_ne (by decide)]; exact h.2.2 i hi
theorem mback (c : CT) (fe : Nat → Int32) (h : ∀ j, cN c ≤ j → fe j = cFe c j) : sFall (sAir (sFe c (fa_fill (cFe c) fe (cN c))) (cAir c)) (cFall c) = c := by
  have e : fa_fill (cFe c) fe (cN c) = cFe c := by
    funext j
    by_cases q : j < cN c
    · rw [fa_fill_in q]
    · rw [fa_fill_out (by omega)]; exact h j (by omega)
  rw [e]
  rfl
set_option maxHeartbeats 1000000 in
set_option maxRecDepth 100000 in
theorem r_cold (l : Launch) (G : az_Gh) (d : Nat) (sh : List az_Sh) (u : Nat → Nat → Int32) (la : Nat → Nat → Int64) (kp tr : Option Nat) (c : CT) (p : Nat) (hM : az_at sh 60 (lyM 60 kp tr)) (hO : cOk c) (hL : cLv c) (hp : p < cN c) (hg : ¬ nI p = cAway c) : FM l G (d + 1) mX8_cold [.ref 60, .int (nI p)] (sh, (mput u 60 c), la) (some (.int (zc c p))) (sh, mput u 60 c, la) := by
  refine az_fm knX8_cold (Nat.le_of_ble_eq_true rfl) rfl (fun Post hP => ?_)
  show AW l G mX8_cold (d + 1) (az_F G Post) 0 0 0 [some (.ref 60), some (.int (nI p)), none] [] (sh, (mput u 60 c), la)
  have h8 := hO.2
  refine A_bipush (v := 40) dX8_cold_0 (by decide) ?_
  refine A_aload_n dX8_cold_2 rfl rfl ?_
  refine B_getV (cAir c) dX8_cold_3 flX8_37 (hM 0 _ rfl) rfl (mr_9 _ _ _) ?_
  refine A_isub dX8_cold_6 ?_
  refine A_aload_n dX8_cold_7 rfl rfl ?_
  refine B_getR (r := 81) dX8_cold_8 flX8_62 (hM 0 _ rfl) rfl ?_
  refine A_iload_n dX8_cold_11 rfl rfl ?_
  refine B_ialdV (i := p) (cFe c p) dX8_cold_12 (hM 21 _ rfl) (by decide) (rfl) (by omega) (me_21 _ _ _ _) ?_
  refine A_isub dX8_cold_13 ?_
  refine A_callS (n := 0) dX8_cold_14 ksX8_held mlX8_227 rfl (c_X8_held l G d sh (mput u 60 c) la ((40 - cAir c) - cFe c p)) (by omega) (Nat.le_refl _) (Nat.le_refl _) rfl (Nat.le_of_ble_eq_true rfl) (fun r S1 hp => ?_)
  obtain ⟨rfl, rfl⟩ := hp
  show AW l G mX8_cold (d + 1) (az_F G Post) 0 0 17 [some (.ref 60), some (.int (nI p)), none] [.int (mx0 ((40 - cAir c) - cFe c p))] (sh, (mput u 60 c), la)
  refine A_istore_n (lo2 := [some (.ref 60), some (.int (nI p)), some (.int (mx0 ((40 - cAir c) - cFe c p)))]) dX8_cold_17 rfl (by decide) rfl ?_
  refine A_aload_n dX8_cold_18 rfl rfl ?_
  refine B_getR (r := 77) dX8_cold_19 flX8_50 (hM 0 _ rfl) rfl ?_
  refine A_iload_n dX8_cold_22 rfl rfl ?_
  refine B_ialdV (i := p) (cKd c p) dX8_cold_23 (hM 17 _ rfl) (by decide) (rfl) (by omega) (me_17 _ _ _ _) ?_
  rcases az_sw15 (cKd c p) with hw | hw | hw | hw | hw | hw
  · skip
    refine A_tableIn (off := 36) (tgt := 60) dX8_cold_24 (by rw [hw]; decide) (by rw [hw]; decide) (by rw [hw]; rfl) rfl ?_
    refine A_iload_n dX8_cold_60 rfl rfl ?_
    refine A_aload_n dX8_cold_61 rfl rfl ?_
    refine B_getR (r := 78) dX8_cold_62 flX8_53 (hM 0 _ rfl) rfl ?_
    refine A_iload_n dX8_cold_65 rfl rfl ?_
    refine B_ialdV (i := p) (cAa c p) dX8_cold_66 (hM 18 _ rfl) (by decide) (rfl) (by omega) (me_18 _ _ _ _) ?_
    refine A_isub dX8_cold_67 ?_
    refine A_callS (n := 0) dX8_cold_68 ksX8_held mlX8_227 rfl (c_X8_held l G d sh (mput u 60 c) la (mx0 ((40 - cAir c) - cFe c p) - cAa c p)) (by omega) (Nat.le_refl _) (Nat.le_refl _) rfl (Nat.le_of_ble_eq_true rfl) (fun r S1 hp => ?_)
    obtain ⟨rfl, rfl⟩ := hp
    show AW l G mX8_cold (d + 1) (az_F G Post) 0 0 71 [some (.ref 60), some (.int (nI p)), some (.int (mx0 ((40 - cAir c) - cFe c p)))] [.int (mx0 (mx0 ((40 - cAir c) - cFe c p) - cAa c p))] (sh, (mput u 60 c), la)
    refine A_iret dX8_cold_71 rfl (az_pi hP ?_ (rfl))
    exact (zc_k1 hw).symm
  · skip
    refine A_tableIn (off := 72) (tgt := 96) dX8_cold_24 (by rw [hw]; decide) (by rw [hw]; decide) (by rw [hw]; rfl) rfl ?_
    refine A_iload_n dX8_cold_96 rfl rfl ?_
    refine A_aload_n dX8_cold_97 rfl rfl ?_
    refine B_getR (r := 78) dX8_cold_98 flX8_53 (hM 0 _ rfl) rfl ?_
    refine A_iload_n dX8_cold_101 rfl rfl ?_
    refine B_ialdV (i := p) (cAa c p) dX8_cold_102 (hM 18 _ rfl) (by decide) (rfl) (by omega) (me_18 _ _ _ _) ?_
    refine A_iadd dX8_cold_103 ?_
    refine A_iret dX8_cold_104 rfl (az_pi hP ?_ (rfl))
    exact (zc_k2 hw).symm
  · skip
    refine A_tableIn (off := 48) (tgt := 72) dX8_cold_24 (by rw [hw]; decide) (by rw [hw]; decide) (by rw [hw]; rfl) rfl ?_
    refine A_iload_n dX8_cold_72 rfl rfl ?_
    refine A_aload_n dX8_cold_73 rfl rfl ?_
    refine B_getR (r := 78) dX8_cold_74 flX8_53 (hM 0 _ rfl) rfl ?_
    refine A_iload_n dX8_cold_77 rfl rfl ?_
    refine B_ialdV (i := p) (cAa c p) dX8_cold_78 (hM 18 _ rfl) (by decide) (rfl) (by omega) (me_18 _ _ _ _) ?_
    refine A_isub dX8_cold_79 ?_
    refine A_callS (n := 0) dX8_cold_80 ksX8_held mlX8_227 rfl (c_X8_held l G d sh (mput u 60 c) la (mx0 ((40 - cAir c) - cFe c p) - cAa c p)) (by omega) (Nat.le_refl _) (Nat.le_refl _) rfl (Nat.le_of_ble_eq_true rfl) (fun r S1 hp => ?_)
    obtain ⟨rfl, rfl⟩ := hp
    show AW l G mX8_cold (d + 1) (az_F G Post) 0 0 83 [some (.ref 60), some (.int (nI p)), some (.int (mx0 ((40 - cAir c) - cFe c p)))] [.int (mx0 (mx0 ((40 - cAir c) - cFe c p) - cAa c p))] (sh, (mput u 60 c), la)
    refine A_iconst (v := 2) dX8_cold_83 (by decide) ?_
    refine A_aload_n dX8_cold_84 rfl rfl ?_
    refine B_getR (r := 80) dX8_cold_85 flX8_59 (hM 0 _ rfl) rfl ?_
    refine A_iload_n dX8_cold_88 rfl rfl ?_
    refine B_ialdV (i := p) (cBr c p) dX8_cold_89 (hM 20 _ rfl) (by decide) (rfl) (by omega) (me_20 _ _ _ _) ?_
    refine A_imul dX8_cold_90 ?_
    refine A_isub dX8_cold_91 ?_
    refine A_callS (n := 0) dX8_cold_92 ksX8_held mlX8_227 rfl (c_X8_held l G d sh (mput u 60 c) la (mx0 (mx0 ((40 - cAir c) - cFe c p) - cAa c p) - (2 * cBr c p))) (by omega) (Nat.le_refl _) (Nat.le_refl _) rfl (Nat.le_of_ble_eq_true rfl) (fun r S1 hp => ?_)
    obtain ⟨rfl, rfl⟩ := hp
    show AW l G mX8_cold (d + 1) (az_F G Post) 0 0 95 [some (.ref 60), some (.int (nI p)), some (.int (mx0 ((40 - cAir c) - cFe c p)))] [.int (mx0 (mx0 (mx0 ((40 - cAir c) - cFe c p) - cAa c p) - (2 * cBr c p)))] (sh, (mput u 60 c), la)
    refine A_iret dX8_cold_95 rfl (az_pi hP ?_ (rfl))
    exact (zc_k3 hw).symm
  · skip
    refine A_tableIn (off := 81) (tgt := 105) dX8_cold_24 (by rw [hw]; decide) (by rw [hw]; decide) (by rw [hw]; rfl) rfl ?_
    refine A_aload_n dX8_cold_105 rfl rfl ?_
    refine A_iload_n dX8_cold_106 rfl rfl ?_
    refine A_callV (n := 0) dX8_cold_107 kvX8_isLoved mlX8_230 rfl (az_rc_obj clX8 (hM 0 _ rfl)) (r_isLoved l G d sh u la kp tr c p hM hO hL hp hg) (by omega) (Nat.le_refl _) (Nat.le_refl _) rfl (Nat.le_of_ble_eq_true rfl) (fun r S1 hp => ?_)
    obtain ⟨rfl, rfl⟩ := hp
    show AW l G mX8_cold (d + 1) (az_F G Post) 0 0 110 [some (.ref 60), some (.int (nI p)), some (.int (mx0 ((40 - cAir c) - cFe c p)))] [.int (b2i ((if cKd c p = 4 then (1 : Int32) else 0) < cLov c))] (sh, (mput u 60 c), la)
    refine A_if_eq (tgt := 130) dX8_cold_110 rfl (fun h_1 => ?_) (fun h_1 => ?_)
    · skip
      have h_1' := b2i_0.mp h_1
      refine A_iload_n dX8_cold_130 rfl rfl ?_
      refine A_aload_n dX8_cold_131 rfl rfl ?_
      refine B_getR (r := 78) dX8_cold_132 flX8_53 (hM 0 _ rfl) rfl ?_
      refine A_iload_n dX8_cold_135 rfl rfl ?_
      refine B_ialdV (i := p) (cAa c p) dX8_cold_136 (hM 18 _ rfl) (by decide) (rfl) (by omega) (me_18 _ _ _ _) ?_
      refine A_iadd dX8_cold_137 ?_
      refine A_iret dX8_cold_138 rfl (az_pi hP ?_ (rfl))
      exact (zc_k4n hw h_1').symm
    · skip
      have h_1' := b2i_n.mp h_1
      refine A_iload_n dX8_cold_113 rfl rfl ?_
      refine A_aload_n dX8_cold_114 rfl rfl ?_
      refine B_getR (r := 78) dX8_cold_115 flX8_53 (hM 0 _ rfl) rfl ?_
      refine A_iload_n dX8_cold_118 rfl rfl ?_
      refine B_ialdV (i := p) (cAa c p) dX8_cold_119 (hM 18 _ rfl) (by decide) (rfl) (by omega) (me_18 _ _ _ _) ?_
      refine A_iadd dX8_cold_120 ?_
      refine A_bipush (v := 10) dX8_cold_121 (by decide) ?_
      refine A_isub dX8_cold_123 ?_
      refine A_callS (n := 0) dX8_cold_124 ksX8_held mlX8_227 rfl (c_X8_held l G d sh (mput u 60 c) la ((mx0 ((40 - cAir c) - cFe c p) + cAa c p) - 10)) (by omega) (Nat.le_refl _) (Nat.le_refl _) rfl (Nat.le_of_ble_eq_true rfl) (fun r S1 hp => ?_)
      obtain ⟨rfl, rfl⟩ := hp
      show AW l G mX8_cold (d + 1) (az_F G Post) 0 0 127 [some (.ref 60), some (.int (nI p)), some (.int (mx0 ((40 - cAir c) - cFe c p)))] [.int (mx0 ((mx0 ((40 - cAir c) - cFe c p) + cAa c p) - 10))] (sh, (mput u 60 c), la)
      refine A_goto (tgt := 138) dX8_cold_127 rfl ?_
      refine A_iret dX8_cold_138 rfl (az_pi hP ?_ (rfl))
      exact (zc_k4 hw h_1').symm
  · skip
    refine A_tableIn (off := 115) (tgt := 139) dX8_cold_24 (by rw [hw]; decide) (by rw [hw]; decide) (by rw [hw]; rfl) rfl ?_
    refine A_iload_n dX8_cold_139 rfl rfl ?_
    refine A_iconst (v := 5) dX8_cold_140 (by decide) ?_
    refine A_iadd dX8_cold_141 ?_
    refine A_iret dX8_cold_142 rfl (az_pi hP ?_ (rfl))
    exact (zc_k5 hw).symm
  · skip
    refine A_tableOut (tgt := 143) dX8_cold_24 hw rfl ?_
    refine A_iload_n dX8_cold_143 rfl rfl ?_
    refine A_iret dX8_cold_144 rfl (az_pi hP ?_ (rfl))
    exact (zc_k0 hw).symm
set_option maxHeartbeats 1000000 in
set_option maxRecDepth 100000 in
theorem r_limit (l : Launch) (G : az_Gh) (d : Nat) (sh : List az_Sh) (u : Nat → Nat → Int32) (la : Nat → Nat → Int64) (kp tr : Option Nat) (c : CT) (p : Nat) (hM : az_at sh 60 (lyM 60 kp tr)) (hO : cOk c) (hp : p < cN c) : FM l G (d) mX8_limit [.ref 60, .int (nI p)] (sh, (mput u 60 c), la) (some (.int (zl c (cPr c p) p))) (sh, mput u 60 c, la) := by
  refine az_fm knX8_limit (Nat.le_of_ble_eq_true rfl) rfl (fun Post hP => ?_)
  show AW l G mX8_limit (d) (az_F G Post) 0 0 0 [some (.ref 60), some (.int (nI p))] [] (sh, (mput u 60 c), la)
  have h8 := hO.2
  refine A_aload_n dX8_limit_0 rfl rfl ?_
  refine B_getR (r := 77) dX8_limit_1 flX8_50 (hM 0 _ rfl) rfl ?_
  refine A_iload_n dX8_limit_4 rfl rfl ?_
  refine B_ialdV (i := p) (cKd c p) dX8_limit_5 (hM 17 _ rfl) (by decide) (rfl) (by omega) (me_17 _ _ _ _) ?_
  rcases az_sw15 (cKd c p) with hw | hw | hw | hw | hw | hw
  · skip
    refine A_tableIn (off := 34) (tgt := 40) dX8_limit_6 (by rw [hw]; decide) (by rw [hw]; decide) (by rw [hw]; rfl) rfl ?_
    refine A_bipush (v := 10) dX8_limit_40 (by decide) ?_
    refine A_iconst (v := 2) dX8_limit_42 (by decide) ?_
    refine A_aload_n dX8_limit_43 rfl rfl ?_
    refine B_getR (r := 79) dX8_limit_44 flX8_56 (hM 0 _ rfl) rfl ?_
    refine A_iload_n dX8_limit_47 rfl rfl ?_
    refine B_ialdV (i := p) (cPr c p) dX8_limit_48 (hM 19 _ rfl) (by decide) (rfl) (by omega) (me_19 _ _ _ _) ?_
    refine A_imul dX8_limit_49 ?_
    refine A_iadd dX8_limit_50 ?_
    refine A_iret dX8_limit_51 rfl (az_pi hP ?_ (rfl))
    exact zl_k hw (zlim_1 _ _)
  · skip
    refine A_tableIn (off := 65) (tgt := 71) dX8_limit_6 (by rw [hw]; decide) (by rw [hw]; decide) (by rw [hw]; rfl) rfl ?_
    refine A_iconst (v := 5) dX8_limit_71 (by decide) ?_
    refine A_aload_n dX8_limit_72 rfl rfl ?_
    refine B_getR (r := 79) dX8_limit_73 flX8_56 (hM 0 _ rfl) rfl ?_
    refine A_iload_n dX8_limit_76 rfl rfl ?_
    refine B_ialdV (i := p) (cPr c p) dX8_limit_77 (hM 19 _ rfl) (by decide) (rfl) (by omega) (me_19 _ _ _ _) ?_
    refine A_iadd dX8_limit_78 ?_
    refine A_iret dX8_limit_79 rfl (az_pi hP ?_ (rfl))
    exact zl_k hw (zlim_2 _ _)
  · skip
    refine A_tableIn (off := 46) (tgt := 52) dX8_limit_6 (by rw [hw]; decide) (by rw [hw]; decide) (by rw [hw]; rfl) rfl ?_
    refine A_bipush (v := 10) dX8_limit_52 (by decide) ?_
    refine A_iconst (v := 2) dX8_limit_54 (by decide) ?_
    refine A_aload_n dX8_limit_55 rfl rfl ?_
    refine B_getR (r := 79) dX8_limit_56 flX8_56 (hM 0 _ rfl) rfl ?_
    refine A_iload_n dX8_limit_59 rfl rfl ?_
    refine B_ialdV (i := p) (cPr c p) dX8_limit_60 (hM 19 _ rfl) (by decide) (rfl) (by omega) (me_19 _ _ _ _) ?_
    refine A_imul dX8_limit_61 ?_
    refine A_iadd dX8_limit_62 ?_
    refine A_aload_n dX8_limit_63 rfl rfl ?_
    refine B_getR (r := 78) dX8_limit_64 flX8_53 (hM 0 _ rfl) rfl ?_
    refine A_iload_n dX8_limit_67 rfl rfl ?_
    refine B_ialdV (i := p) (cAa c p) dX8_limit_68 (hM 18 _ rfl) (by decide) (rfl) (by omega) (me_18 _ _ _ _) ?_
    refine A_iadd dX8_limit_69 ?_
    refine A_iret dX8_limit_70 rfl (az_pi hP ?_ (rfl))
    exact zl_k hw (zlim_3 _ _)
  · skip
    refine A_tableIn (off := 74) (tgt := 80) dX8_limit_6 (by rw [hw]; decide) (by rw [hw]; decide) (by rw [hw]; rfl) rfl ?_
    refine A_bipush (v := 35) dX8_limit_80 (by decide) ?_
    refine A_iret dX8_limit_82 rfl (az_pi hP ?_ (rfl))
    exact zl_k hw (zlim_4 _ _)
  · skip
    refine A_tableIn (off := 77) (tgt := 83) dX8_limit_6 (by rw [hw]; decide) (by rw [hw]; decide) (by rw [hw]; rfl) rfl ?_
    refine A_bipush (v := 10) dX8_limit_83 (by decide) ?_
    refine A_iret dX8_limit_85 rfl (az_pi hP ?_ (rfl))
    exact zl_k hw (zlim_5 _ _)
  · skip
    refine A_tableOut (tgt := 86) dX8_limit_6 hw rfl ?_
    refine A_bipush (v := 10) dX8_limit_86 (by decide) ?_
    refine A_aload_n dX8_limit_88 rfl rfl ?_
    refine B_getR (r := 79) dX8_limit_89 flX8_56 (hM 0 _ rfl) rfl ?_
    refine A_iload_n dX8_limit_92 rfl rfl ?_
    refine B_ialdV (i := p) (cPr c p) dX8_limit_93 (hM 19 _ rfl) (by decide) (rfl) (by omega) (me_19 _ _ _ _) ?_
    refine A_iadd dX8_limit_94 ?_
    refine A_iret dX8_limit_95 rfl (az_pi hP ?_ (rfl))
    exact zl_k0 hw
set_option maxHeartbeats 1000000 in
set_option maxRecDepth 100000 in
theorem r_speaksNow (l : Launch) (G : az_Gh) (d : Nat) (sh : List az_Sh) (u : Nat → Nat → Int32) (la : Nat → Nat → Int64) (kp tr : Option Nat) (c : CT) (p : Nat) (hM : az_at sh 60 (lyM 60 kp tr)) (hO : cOk c) (hL : cLv c) (hp : p < cN c) (hg : ¬ nI p = cAway c) : FM l G (d + 2) mX8_speaksNow [.ref 60, .int (nI p)] (sh, (mput u 60 c), la) (some (.int (b2i (zsp c p = true)))) (sh, mput u 60 c, la) := by
  refine az_fm knX8_speaksNow (Nat.le_of_ble_eq_true rfl) rfl (fun Post hP => ?_)
  show AW l G mX8_speaksNow (d + 2) (az_F G Post) 0 0 0 [some (.ref 60), some (.int (nI p))] [] (sh, (mput u 60 c), la)
  refine A_aload_n dX8_speaksNow_0 rfl rfl ?_
  refine A_iload_n dX8_speaksNow_1 rfl rfl ?_
  refine A_callV (n := 0) dX8_speaksNow_2 kvX8_cold mlX8_122 rfl (az_rc_obj clX8 (hM 0 _ rfl)) (r_cold l G d sh u la kp tr c p hM hO hL hp hg) (by omega) (Nat.le_refl _) (Nat.le_refl _) rfl (Nat.le_of_ble_eq_true rfl) (fun r S1 hp => ?_)
  obtain ⟨rfl, rfl⟩ := hp
  show AW l G mX8_speaksNow (d + 2) (az_F G Post) 0 0 5 [some (.ref 60), some (.int (nI p))] [.int (zc c p)] (sh, (mput u 60 c), la)
  refine A_aload_n dX8_speaksNow_5 rfl rfl ?_
  refine A_iload_n dX8_speaksNow_6 rfl rfl ?_
  refine A_callV (n := 0) dX8_speaksNow_7 kvX8_limit mlX8_233 rfl (az_rc_obj clX8 (hM 0 _ rfl)) (r_limit l G (d + 1) sh u la kp tr c p hM hO hp) (by omega) (Nat.le_refl _) (Nat.le_refl _) rfl (Nat.le_of_ble_eq_true rfl) (fun r S1 hp => ?_)
  obtain ⟨rfl, rfl⟩ := hp
  show AW l G mX8_speaksNow (d + 2) (az_F G Post) 0 0 10 [some (.ref 60), some (.int (nI p))] [.int (zl c (cPr c p) p), .int (zc c p)] (sh, (mput u 60 c), la)
  refine A_icmp_le (tgt := 17) dX8_speaksNow_10 rfl (fun h_1 => ?_) (fun h_1 => ?_)
  · skip
    refine A_iconst (v := 0) dX8_speaksNow_17 (by decide) ?_
    refine A_zret dX8_speaksNow_18 rfl (rfl) (az_pi hP ?_ (rfl))
    exact b2i_f (fun q => Int32.not_lt.mpr h_1 (of_decide_eq_true q))
  · skip
    refine A_iconst (v := 1) dX8_speaksNow_13 (by decide) ?_
    refine A_goto (tgt := 18) dX8_speaksNow_14 rfl ?_
    refine A_zret dX8_speaksNow_18 rfl (rfl) (az_pi hP ?_ (rfl))
    exact b2i_t (decide_eq_true (Int32.not_le.mp h_1))
set_option maxHeartbeats 1000000 in
set_option maxRecDepth 100000 in
theorem r_coldestOf (l : Launch) (G : az_Gh) (d : Nat) (sh : List az_Sh) (u : Nat → Nat → Int32) (la : Nat → Nat → Int64) (kp tr : Option Nat) (c : CT)  (hM : az_at sh 60 (lyM 60 kp tr)) (hO : cOk c) (hL : cLv c) : FM l G (d + 2) mX8_coldestOf [.ref 60] (sh, (mput u 60 c), la) (some (.int (oI (zbest c)))) (sh, mput u 60 c, la) := by
  refine az_fm knX8_coldestOf (Nat.le_of_ble_eq_true rfl) rfl (fun Post hP => ?_)
  show AW l G mX8_coldestOf (d + 2) (az_F G Post) 0 0 0 [some (.ref 60), none, none] [] (sh, (mput u 60 c), la)
  have h8 := hO.2
  refine A_iconst (v := (-1)) dX8_coldestOf_0 (by decide) ?_
  refine A_istore_n (lo2 := [some (.ref 60), some (.int (-1)), none]) dX8_coldestOf_1 rfl (by decide) rfl ?_
  refine A_iconst (v := 0) dX8_coldestOf_2 (by decide) ?_
  refine A_istore_n (lo2 := [some (.ref 60), some (.int (-1)), some (.int 0)]) dX8_coldestOf_3 rfl (by decide) rfl ?_
  have loop : ∀ (q_i9 i9 : Nat) (x1 : Int32), i9 + q_i9 = cN c → x1 = oI (zb c i9) → AW l G mX8_coldestOf (d + 2) (az_F G Post) 0 0 4 [some (.ref 60), some (.int x1), some (.int (nI i9))] [] (sh, (mput u 60 c), la) := by
    intro q_i9
    induction q_i9 with
    | zero =>
      intro i9 x1 hi_i9  e_x1
      have hN_i9 : i9 = cN c := by omega
      subst i9
      refine A_iload_n dX8_coldestOf_4 rfl rfl ?_
      refine A_aload_n dX8_coldestOf_5 rfl rfl ?_
      refine B_getV (nI (cN c)) dX8_coldestOf_6 flX8_88 (hM 0 _ rfl) rfl ((mr_14 _ _ _).trans hO.1) ?_
      refine A_icmp_ge (tgt := 50) dX8_coldestOf_9 rfl (fun h_1 => ?_) (fun h_1 => ?_)
      · skip
        refine A_iload_n dX8_coldestOf_50 rfl rfl ?_
        refine A_iret dX8_coldestOf_51 rfl (az_pi hP ?_ (rfl))
        rw [e_x1]; rfl
      · skip
        exact absurd (Int32.le_refl _) h_1
    | succ q_i9 ih =>
      intro i9 x1 hi_i9  e_x1
      refine A_iload_n dX8_coldestOf_4 rfl rfl ?_
      refine A_aload_n dX8_coldestOf_5 rfl rfl ?_
      refine B_getV (nI (cN c)) dX8_coldestOf_6 flX8_88 (hM 0 _ rfl) rfl ((mr_14 _ _ _).trans hO.1) ?_
      refine A_icmp_ge (tgt := 50) dX8_coldestOf_9 rfl (fun h_2 => ?_) (fun h_2 => ?_)
      · skip
        exact absurd h_2 (nI_ge (by omega) (by omega))
      · skip
        refine A_iload_n dX8_coldestOf_12 rfl rfl ?_
        refine A_aload_n dX8_coldestOf_13 rfl rfl ?_
        refine B_getV (cAway c) dX8_coldestOf_14 flX8_71 (hM 0 _ rfl) rfl (mr_30 _ _ _) ?_
        refine A_icmp_eq (tgt := 42) dX8_coldestOf_17 rfl (fun h_3 => ?_) (fun h_3 => ?_)
        · skip
          refine A_iload_n dX8_coldestOf_42 rfl rfl ?_
          refine A_istore_n (lo2 := [some (.ref 60), some (.int x1), some (.int (nI i9))]) dX8_coldestOf_43 rfl (by decide) rfl ?_
          refine A_iinc (v := nI (i9 + 1)) (lo2 := [some (.ref 60), some (.int x1), some (.int (nI (i9 + 1)))]) dX8_coldestOf_44 rfl (nI_1 i9) (by decide) rfl ?_
          refine A_goto (tgt := 4) dX8_coldestOf_47 rfl ?_
          refine ih (i9 + 1) _ (by omega) ?_
          · skip
            rw [zb_aw h_3]; exact e_x1
        · skip
          refine A_iload_n dX8_coldestOf_20 rfl rfl ?_
          refine A_iconst (v := (-1)) dX8_coldestOf_21 (by decide) ?_
          refine A_icmp_eq (tgt := 38) dX8_coldestOf_22 rfl (fun h_4 => ?_) (fun h_4 => ?_)
          · skip
            refine A_iload_n dX8_coldestOf_38 rfl rfl ?_
            refine A_goto (tgt := 43) dX8_coldestOf_39 rfl ?_
            refine A_istore_n (lo2 := [some (.ref 60), some (.int (nI i9)), some (.int (nI i9))]) dX8_coldestOf_43 rfl (by decide) rfl ?_
            refine A_iinc (v := nI (i9 + 1)) (lo2 := [some (.ref 60), some (.int (nI i9)), some (.int (nI (i9 + 1)))]) dX8_coldestOf_44 rfl (nI_1 i9) (by decide) rfl ?_
            refine A_goto (tgt := 4) dX8_coldestOf_47 rfl ?_
            refine ih (i9 + 1) _ (by omega) ?_
            · skip
              rw [zb_g0 h_3 ((oI_n (fun k hk => by have := zb_lt c _ _ hk; omega)).mp (e_x1.symm.trans h_4))]; rfl
          · skip
            obtain ⟨k, ek⟩ := oI_s (show ¬ oI (zb c i9) = -1 from fun q => h_4 (e_x1.trans q))
            have hk := zb_lt c _ _ ek
            have e_x2 : x1 = nI k := by rw [e_x1, ek]; rfl
            clear e_x1
            subst x1
            refine A_aload_n dX8_coldestOf_25 rfl rfl ?_
            refine A_iload_n dX8_coldestOf_26 rfl rfl ?_
            refine A_callV (n := 0) dX8_coldestOf_27 kvX8_cold mlX8_122 rfl (az_rc_obj clX8 (hM 0 _ rfl)) (r_cold l G d sh u la kp tr c i9 hM hO hL (by omega) h_3) (by omega) (Nat.le_refl _) (Nat.le_refl _) rfl (Nat.le_of_ble_eq_true rfl) (fun r S1 hp => ?_)
            obtain ⟨rfl, rfl⟩ := hp
            show AW l G mX8_coldestOf (d + 2) (az_F G Post) 0 0 30 [some (.ref 60), some (.int (nI k)), some (.int (nI i9))] [.int (zc c i9)] (sh, (mput u 60 c), la)
            refine A_aload_n dX8_coldestOf_30 rfl rfl ?_
            refine A_iload_n dX8_coldestOf_31 rfl rfl ?_
            refine A_callV (n := 0) dX8_coldestOf_32 kvX8_cold mlX8_122 rfl (az_rc_obj clX8 (hM 0 _ rfl)) (r_cold l G d sh u la kp tr c k hM hO hL (by omega) (zb_na _ _ ek)) (by omega) (Nat.le_refl _) (Nat.le_refl _) rfl (Nat.le_of_ble_eq_true rfl) (fun r S1 hp => ?_)
            obtain ⟨rfl, rfl⟩ := hp
            show AW l G mX8_coldestOf (d + 2) (az_F G Post) 0 0 35 [some (.ref 60), some (.int (nI k)), some (.int (nI i9))] [.int (zc c k), .int (zc c i9)] (sh, (mput u 60 c), la)
            refine A_icmp_le (tgt := 42) dX8_coldestOf_35 rfl (fun h_5 => ?_) (fun h_5 => ?_)
            · skip
              refine A_iload_n dX8_coldestOf_42 rfl rfl ?_
              refine A_istore_n (lo2 := [some (.ref 60), some (.int (nI k)), some (.int (nI i9))]) dX8_coldestOf_43 rfl (by decide) rfl ?_
              refine A_iinc (v := nI (i9 + 1)) (lo2 := [some (.ref 60), some (.int (nI k)), some (.int (nI (i9 + 1)))]) dX8_coldestOf_44 rfl (nI_1 i9) (by decide) rfl ?_
              refine A_goto (tgt := 4) dX8_coldestOf_47 rfl ?_
              refine ih (i9 + 1) _ (by omega) ?_
              · skip
                rw [zb_g2 h_3 ek (Int32.not_lt.mpr h_5)]; rfl
            · skip
              refine A_iload_n dX8_coldestOf_38 rfl rfl ?_
              refine A_goto (tgt := 43) dX8_coldestOf_39 rfl ?_
              refine A_istore_n (lo2 := [some (.ref 60), some (.int (nI i9)), some (.int (nI i9))]) dX8_coldestOf_43 rfl (by decide) rfl ?_
              refine A_iinc (v := nI (i9 + 1)) (lo2 := [some (.ref 60), some (.int (nI i9)), some (.int (nI (i9 + 1)))]) dX8_coldestOf_44 rfl (nI_1 i9) (by decide) rfl ?_
              refine A_goto (tgt := 4) dX8_coldestOf_47 rfl ?_
              refine ih (i9 + 1) _ (by omega) ?_
              · skip
                rw [zb_g1 h_3 ek (Int32.not_le.mp h_5)]; rfl
  exact loop (cN c) 0 _ (by omega) (rfl)
set_option maxHeartbeats 1000000 in
set_option maxRecDepth 100000 in
theorem r_isSoNow (l : Launch) (G : az_Gh) (d : Nat) (sh : List az_Sh) (u : Nat → Nat → Int32) (la : Nat → Nat → Int64) (kp tr : Option Nat) (c : CT)  (hM : az_at sh 60 (lyM 60 kp tr)) (hO : cOk c) (hL : cLv c) : FM l G (d + 3) mX8_isSoNow [.ref 60] (sh, (mput u 60 c), la) (some (.int (b2i (zso c = true)))) (sh, mput u 60 c, la) := by
  refine az_fm knX8_isSoNow (Nat.le_of_ble_eq_true rfl) rfl (fun Post hP => ?_)
  show AW l G mX8_isSoNow (d + 3) (az_F G Post) 0 0 0 [some (.ref 60), none] [] (sh, (mput u 60 c), la)
  refine A_aload_n dX8_isSoNow_0 rfl rfl ?_
  refine A_callV (n := 0) dX8_isSoNow_1 kvX8_coldestOf mlX8_236 rfl (az_rc_obj clX8 (hM 0 _ rfl)) (r_coldestOf l G d sh u la kp tr c hM hO hL) (by omega) (Nat.le_refl _) (Nat.le_refl _) rfl (Nat.le_of_ble_eq_true rfl) (fun r S1 hp => ?_)
  obtain ⟨rfl, rfl⟩ := hp
  show AW l G mX8_isSoNow (d + 3) (az_F G Post) 0 0 4 [some (.ref 60), none] [.int (oI (zbest c))] (sh, (mput u 60 c), la)
  refine A_istore_n (lo2 := [some (.ref 60), some (.int (oI (zbest c)))]) dX8_isSoNow_4 rfl (by decide) rfl ?_
  refine A_iload_n dX8_isSoNow_5 rfl rfl ?_
  refine A_iconst (v := (-1)) dX8_isSoNow_6 (by decide) ?_
  refine A_icmp_eq (tgt := 22) dX8_isSoNow_7 rfl (fun h_1 => ?_) (fun h_1 => ?_)
  · skip
    refine A_iconst (v := 0) dX8_isSoNow_22 (by decide) ?_
    refine A_zret dX8_isSoNow_23 rfl (rfl) (az_pi hP ?_ (rfl))
    exact b2i_f (fun q => by unfold zso at q; rw [(oI_n (zbest_l hO)).mp h_1] at q; cases q)
  · skip
    obtain ⟨k, ek⟩ := oI_s h_1
    have hk := zb_lt c _ _ ek
    refine az_jn2 (show oI (zbest c) = nI k by rw [ek]; rfl) (P := fun z => AW l G mX8_isSoNow (d + 3) (az_F G Post) 0 0 10 [some (.ref 60), some (.int (z))] [] (sh, (mput u 60 c), la)) ?_
    refine A_aload_n dX8_isSoNow_10 rfl rfl ?_
    refine A_iload_n dX8_isSoNow_11 rfl rfl ?_
    refine A_callV (n := 0) dX8_isSoNow_12 kvX8_speaksNow mlX8_239 rfl (az_rc_obj clX8 (hM 0 _ rfl)) (r_speaksNow l G d sh u la kp tr c k hM hO hL hk (zb_na _ _ ek)) (by omega) (Nat.le_refl _) (Nat.le_refl _) rfl (Nat.le_of_ble_eq_true rfl) (fun r S1 hp => ?_)
    obtain ⟨rfl, rfl⟩ := hp
    show AW l G mX8_isSoNow (d + 3) (az_F G Post) 0 0 15 [some (.ref 60), some (.int (nI k))] [.int (b2i (zsp c k = true))] (sh, (mput u 60 c), la)
    refine A_if_eq (tgt := 22) dX8_isSoNow_15 rfl (fun h_2 => ?_) (fun h_2 => ?_)
    · skip
      have h_2' := b2i_0.mp h_2
      refine A_iconst (v := 0) dX8_isSoNow_22 (by decide) ?_
      refine A_zret dX8_isSoNow_23 rfl (rfl) (az_pi hP ?_ (rfl))
      exact b2i_f (fun q => by unfold zso at q; rw [ek] at q; exact h_2' q)
    · skip
      have h_2' := b2i_n.mp h_2
      refine A_iconst (v := 1) dX8_isSoNow_18 (by decide) ?_
      refine A_goto (tgt := 23) dX8_isSoNow_19 rfl ?_
      refine A_zret dX8_isSoNow_23 rfl (rfl) (az_pi hP ?_ (rfl))
      exact b2i_t (by unfold zso; rw [ek]; exact h_2')
set_option maxHeartbeats 1000000 in
set_option maxRecDepth 100000 in
theorem r_cools (l : Launch) (G : az_Gh) (d : Nat) (sh : List az_Sh) (u : Nat → Nat → Int32) (la : Nat → Nat → Int64) (kp tr : Option Nat) (c : CT)  (hM : az_at sh 60 (lyM 60 kp tr)) (hO : cOk c) : FM l G (d + 1) mX8_cools [.ref 60] (sh, (mput u 60 c), la) (none) (sh, mput u 60 (zcool 1 c), la) := by
  refine az_fm knX8_cools (Nat.le_of_ble_eq_true rfl) rfl (fun Post hP => ?_)
  show AW l G mX8_cools (d + 1) (az_F G Post) 0 0 0 [some (.ref 60), none] [] (sh, (mput u 60 c), la)
  have h8 := hO.2
  refine A_aload_n dX8_cools_0 rfl rfl ?_
  refine A_aload_n dX8_cools_1 rfl rfl ?_
  refine B_getV (cAir c) dX8_cools_2 flX8_37 (hM 0 _ rfl) rfl (mr_9 _ _ _) ?_
  refine A_aload_n dX8_cools_5 rfl rfl ?_
  refine B_getV (cFall c) dX8_cools_6 flX8_41 (hM 0 _ rfl) rfl (mr_10 _ _ _) ?_
  refine A_isub dX8_cools_9 ?_
  refine A_callS (n := 0) dX8_cools_10 ksX8_held mlX8_227 rfl (c_X8_held l G d sh (mput u 60 c) la (cAir c - cFall c)) (by omega) (Nat.le_refl _) (Nat.le_refl _) rfl (Nat.le_of_ble_eq_true rfl) (fun r S1 hp => ?_)
  obtain ⟨rfl, rfl⟩ := hp
  show AW l G mX8_cools (d + 1) (az_F G Post) 0 0 13 [some (.ref 60), none] [.int (mx0 (cAir c - cFall c)), .ref 60] (sh, (mput u 60 c), la)
  refine B_putI dX8_cools_13 fwX8_37 (hM 0 _ rfl) rfl ?_
  refine B_sg (show _ = (mput u 60 (sAir c (mx0 (cAir c - cFall c)))) from mw_9 _ _ _ _) ?_
  refine A_iconst (v := 0) dX8_cools_16 (by decide) ?_
  refine A_istore_n (lo2 := [some (.ref 60), some (.int 0)]) dX8_cools_17 rfl (by decide) rfl ?_
  obtain ⟨A9, hA9⟩ : ∃ A9, A9 = mx0 (cAir c - cFall c) := ⟨_, rfl⟩
  rw [← hA9]
  refine B_sg (show _ = mput u 60 (sFe (sAir c A9) (ccf c 0)) from congrArg (mput u 60) (by rw [ccf_0]; rfl)) ?_
  have loop : ∀ (q_i9 i9 : Nat), i9 + q_i9 = cN c → AW l G mX8_cools (d + 1) (az_F G Post) 0 0 18 [some (.ref 60), some (.int (nI i9))] [] (sh, (mput u 60 (sFe (sAir c A9) (ccf c i9))), la) := by
    intro q_i9
    induction q_i9 with
    | zero =>
      intro i9  hi_i9  
      have hN_i9 : i9 = cN c := by omega
      subst i9
      refine A_iload_n dX8_cools_18 rfl rfl ?_
      refine A_aload_n dX8_cools_19 rfl rfl ?_
      refine B_getV (nI (cN c)) dX8_cools_20 flX8_88 (hM 0 _ rfl) rfl (((mr_14 _ _ _).trans cr_Pp_AirFe).trans hO.1) ?_
      refine A_icmp_ge (tgt := 49) dX8_cools_23 rfl (fun h_1 => ?_) (fun h_1 => ?_)
      · skip
        exact A_vret dX8_cools_49 rfl (az_pv hP (congrArg (fun z => (sh, mput u 60 z, la)) (by rw [hA9]; exact ccf_n c)))
      · skip
        exact absurd (Int32.le_refl _) h_1
    | succ q_i9 ih =>
      intro i9  hi_i9  
      refine A_iload_n dX8_cools_18 rfl rfl ?_
      refine A_aload_n dX8_cools_19 rfl rfl ?_
      refine B_getV (nI (cN c)) dX8_cools_20 flX8_88 (hM 0 _ rfl) rfl (((mr_14 _ _ _).trans cr_Pp_AirFe).trans hO.1) ?_
      refine A_icmp_ge (tgt := 49) dX8_cools_23 rfl (fun h_2 => ?_) (fun h_2 => ?_)
      · skip
        exact absurd h_2 (nI_ge (by omega) (by omega))
      · skip
        refine A_aload_n dX8_cools_26 rfl rfl ?_
        refine B_getR (r := 81) dX8_cools_27 flX8_62 (hM 0 _ rfl) rfl ?_
        refine A_iload_n dX8_cools_30 rfl rfl ?_
        refine A_aload_n dX8_cools_31 rfl rfl ?_
        refine B_getR (r := 81) dX8_cools_32 flX8_62 (hM 0 _ rfl) rfl ?_
        refine A_iload_n dX8_cools_35 rfl rfl ?_
        refine B_ialdV (i := i9) ((ccf c i9) i9) dX8_cools_36 (hM 21 _ rfl) (by decide) (rfl) (by omega) ((me_21 _ _ _ _).trans (congrFun cr_Fe_AirFe _)) ?_
        refine A_iconst (v := 1) dX8_cools_37 (by decide) ?_
        refine A_isub dX8_cools_38 ?_
        refine A_callS (n := 0) dX8_cools_39 ksX8_held mlX8_227 rfl (c_X8_held l G d sh (mput u 60 (sFe (sAir c A9) (ccf c i9))) la ((ccf c i9) i9 - 1)) (by omega) (Nat.le_refl _) (Nat.le_refl _) rfl (Nat.le_of_ble_eq_true rfl) (fun r S1 hp => ?_)
        obtain ⟨rfl, rfl⟩ := hp
        show AW l G mX8_cools (d + 1) (az_F G Post) 0 0 42 [some (.ref 60), some (.int (nI i9))] [.int (mx0 ((ccf c i9) i9 - 1)), .int (nI i9), .ref 81] (sh, (mput u 60 (sFe (sAir c A9) (ccf c i9))), la)
        refine B_iast (i := i9) dX8_cools_42 (hM 21 _ rfl) (by decide) (rfl) (by omega) ?_
        refine B_sg (show _ = (mput u 60 (sFe (sAir c A9) (va_up (ccf c i9) i9 (mx0 ((ccf c i9) i9 - 1))))) from (mx_21 _ _ _ _ _).trans (congrArg (mput u 60) cu_Fe_AirFe)) ?_
        refine B_sg (show _ = mput u 60 (sFe (sAir c A9) (ccf c (i9 + 1))) from congrArg (fun z => mput u 60 (sFe (sAir c A9) z)) (ccf_s c i9)) ?_
        refine A_iinc (v := nI (i9 + 1)) (lo2 := [some (.ref 60), some (.int (nI (i9 + 1)))]) dX8_cools_43 rfl (nI_1 i9) (by decide) rfl ?_
        refine A_goto (tgt := 18) dX8_cools_46 rfl ?_
        refine ih (i9 + 1) (by omega)
  exact loop (cN c) 0 (by omega)
set_option maxHeartbeats 1000000 in
set_option maxRecDepth 100000 in
theorem r_keeps (l : Launch) (G : az_Gh) (d : Nat) (sh : List az_Sh) (u : Nat → Nat → Int32) (la : Nat → Nat → Int64) (kp tr : Option Nat) (c : CT)  (hM : az_at sh 60 (lyM 60 kp tr)) (hO : cOk c) : FM l G (d) mX8_keeps [.ref 60] (sh, (mput u 60 c), la) (none) (sh, mput (mkp u c) 60 c, la) := by
  refine az_fm knX8_keeps (Nat.le_of_ble_eq_true rfl) rfl (fun Post hP => ?_)
  show AW l G mX8_keeps (d) (az_F G Post) 0 0 0 [some (.ref 60), none] [] (sh, (mput u 60 c), la)
  have h8 := hO.2
  refine A_aload_n dX8_keeps_0 rfl rfl ?_
  refine A_aload_n dX8_keeps_1 rfl rfl ?_
  refine B_getV (cAir c) dX8_keeps_2 flX8_37 (hM 0 _ rfl) rfl (mr_9 _ _ _) ?_
  refine B_putI dX8_keeps_5 fwX8_253 (hM 0 _ rfl) rfl ?_
  refine B_sg (show _ = (mput (az_w u 60 31 (cAir c)) 60 c) from mput_wj rfl) ?_
  refine A_aload_n dX8_keeps_8 rfl rfl ?_
  refine A_aload_n dX8_keeps_9 rfl rfl ?_
  refine B_getV (cFall c) dX8_keeps_10 flX8_41 (hM 0 _ rfl) rfl (mr_10 _ _ _) ?_
  refine B_putI dX8_keeps_13 fwX8_256 (hM 0 _ rfl) rfl ?_
  refine B_sg (show _ = (mput (az_w (az_w u 60 31 (cAir c)) 60 32 (cFall c)) 60 c) from mput_wj rfl) ?_
  refine A_iconst (v := 0) dX8_keeps_16 (by decide) ?_
  refine A_istore_n (lo2 := [some (.ref 60), some (.int 0)]) dX8_keeps_17 rfl (by decide) rfl ?_
  refine B_sg (congrArg (fun z => mput z 60 c) (show _ = va_up (az_w (az_w u 60 31 (cAir c)) 60 32 (cFall c)) 83 (fa_fill (cFe c) (u 83) 0) by rw [fa_fill_0, show u 83 = (az_w (az_w u 60 31 (cAir c)) 60 32 (cFall c)) 83 by rw [az_w_ne (by decide), az_w_ne (by decide)], az_up_id])) ?_
  have loop : ∀ (q_i9 i9 : Nat), i9 + q_i9 = cN c → AW l G mX8_keeps (d) (az_F G Post) 0 0 18 [some (.ref 60), some (.int (nI i9))] [] (sh, (mput (va_up (az_w (az_w u 60 31 (cAir c)) 60 32 (cFall c)) 83 (fa_fill (cFe c) (u 83) i9)) 60 c), la) := by
    intro q_i9
    induction q_i9 with
    | zero =>
      intro i9  hi_i9  
      have hN_i9 : i9 = cN c := by omega
      subst i9
      refine A_iload_n dX8_keeps_18 rfl rfl ?_
      refine A_aload_n dX8_keeps_19 rfl rfl ?_
      refine B_getV (nI (cN c)) dX8_keeps_20 flX8_88 (hM 0 _ rfl) rfl ((mr_14 _ _ _).trans hO.1) ?_
      refine A_icmp_ge (tgt := 44) dX8_keeps_23 rfl (fun h_1 => ?_) (fun h_1 => ?_)
      · skip
        exact A_vret dX8_keeps_44 rfl (az_pv hP (rfl))
      · skip
        exact absurd (Int32.le_refl _) h_1
    | succ q_i9 ih =>
      intro i9  hi_i9  
      refine A_iload_n dX8_keeps_18 rfl rfl ?_
      refine A_aload_n dX8_keeps_19 rfl rfl ?_
      refine B_getV (nI (cN c)) dX8_keeps_20 flX8_88 (hM 0 _ rfl) rfl ((mr_14 _ _ _).trans hO.1) ?_
      refine A_icmp_ge (tgt := 44) dX8_keeps_23 rfl (fun h_2 => ?_) (fun h_2 => ?_)
      · skip
        exact absurd h_2 (nI_ge (by omega) (by omega))
      · skip
        refine A_aload_n dX8_keeps_26 rfl rfl ?_
        refine B_getR (r := 83) dX8_keeps_27 flX8_74 (hM 0 _ rfl) rfl ?_
        refine A_iload_n dX8_keeps_30 rfl rfl ?_
        refine A_aload_n dX8_keeps_31 rfl rfl ?_
        refine B_getR (r := 81) dX8_keeps_32 flX8_62 (hM 0 _ rfl) rfl ?_
        refine A_iload_n dX8_keeps_35 rfl rfl ?_
        refine B_ialdV (i := i9) (cFe c i9) dX8_keeps_36 (hM 21 _ rfl) (by decide) (rfl) (by omega) (me_21 _ _ _ _) ?_
        refine B_iast (i := i9) dX8_keeps_37 (hM 23 _ rfl) (by decide) (rfl) (by omega) ?_
        refine B_sg (show _ = (mput (az_w (va_up (az_w (az_w u 60 31 (cAir c)) 60 32 (cFall c)) 83 (fa_fill (cFe c) (u 83) i9)) 83 i9 (cFe c i9)) 60 c) from mput_wk (by decide) (by decide)) ?_
        refine B_sg (show _ = mput (va_up (az_w (az_w u 60 31 (cAir c)) 60 32 (cFall c)) 83 (fa_fill (cFe c) (u 83) (i9 + 1))) 60 c from congrArg (fun z => mput z 60 c) ((az_w_up _ _ _ _ _).trans (congrArg (va_up (az_w (az_w u 60 31 (cAir c)) 60 32 (cFall c)) 83) (fa_fill_up _ _ _)))) ?_
        refine A_iinc (v := nI (i9 + 1)) (lo2 := [some (.ref 60), some (.int (nI (i9 + 1)))]) dX8_keeps_38 rfl (nI_1 i9) (by decide) rfl ?_
        refine A_goto (tgt := 18) dX8_keeps_41 rfl ?_
        refine ih (i9 + 1) (by omega)
  exact loop (cN c) 0 (by omega)
