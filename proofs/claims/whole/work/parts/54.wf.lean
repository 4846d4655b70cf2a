/-! changes keep the state well -/
theorem iR_nI {x : Int32} {m : Nat} (h : iR x m) : ∃ k, k ≤ m ∧ x = nI k := by
  obtain ⟨j, hj, e⟩ := nI_of (x := x) (Int32.not_lt.mpr (iR_0 h))
  subst e
  have h2 := h.2
  rw [nI_toInt hj] at h2
  exact ⟨j, by omega, rfl⟩
theorem iR_of {k m : Nat} (h : k ≤ m) (hm : m < 2 ^ 31) : iR (nI k) m := by
  unfold iR
  rw [nI_toInt (by omega)]
  omega
theorem iR_ofI {x : Int32} {m : Nat} (h : 0 ≤ x ∧ x ≤ nI m) (hm : m < 2 ^ 31) : iR x m := by
  obtain ⟨k, hk, rfl⟩ := nI_ex h
  exact iR_of hk hm
theorem str_n {f : SHF} {i n : Int32} (hz : fSz f ≤ 40) (h : 0 ≤ n ∧ n ≤ nI (fSz f) ∧ 0 ≤ i ∧ i ≤ nI (fSz f) - n) : ∃ i1 n1, i = nI i1 ∧ n = nI n1 ∧ i1 + n1 ≤ fSz f := by
  obtain ⟨h1, h2, h3, h4⟩ := h
  obtain ⟨n1, hn, rfl⟩ := nI_ex ⟨h1, h2⟩
  rw [nI_sub hn (by omega)] at h4
  obtain ⟨i1, hi, rfl⟩ := nI_ex ⟨h3, h4⟩
  exact ⟨i1, n1, rfl, rfl, by omega⟩
theorem cN_settle {c : CT} (h : cOk c) (h7 : cN c < 8) (k a p : Int32) : cN (zsettle c k a p) = cN c + 1 := (cOk_settle h h7 k a p).2
theorem cs_PpPp (c : CT) (x : Int32) : cPp (sPp c x) = x := rfl
theorem cs_PpKd (c : CT) (x : Nat → Int32) : cPp (sKd c x) = cPp c := rfl
theorem cs_PpAa (c : CT) (x : Nat → Int32) : cPp (sAa c x) = cPp c := rfl
theorem cs_PpPr (c : CT) (x : Nat → Int32) : cPp (sPr c x) = cPp c := rfl
theorem cs_PpBr (c : CT) (x : Nat → Int32) : cPp (sBr c x) = cPp c := rfl
theorem cs_PpFe (c : CT) (x : Nat → Int32) : cPp (sFe c x) = cPp c := rfl
theorem cs_PpLov (c : CT) (x : Int32) : cPp (sLov c x) = cPp c := rfl
theorem cs_AirPp (c : CT) (x : Int32) : cAir (sPp c x) = cAir c := rfl
theorem cs_AirKd (c : CT) (x : Nat → Int32) : cAir (sKd c x) = cAir c := rfl
theorem cs_AirAa (c : CT) (x : Nat → Int32) : cAir (sAa c x) = cAir c := rfl
theorem cs_AirPr (c : CT) (x : Nat → Int32) : cAir (sPr c x) = cAir c := rfl
theorem cs_AirBr (c : CT) (x : Nat → Int32) : cAir (sBr c x) = cAir c := rfl
theorem cs_AirFe (c : CT) (x : Nat → Int32) : cAir (sFe c x) = cAir c := rfl
theorem cs_AirLov (c : CT) (x : Int32) : cAir (sLov c x) = cAir c := rfl
theorem cs_FallPp (c : CT) (x : Int32) : cFall (sPp c x) = cFall c := rfl
theorem cs_FallKd (c : CT) (x : Nat → Int32) : cFall (sKd c x) = cFall c := rfl
theorem cs_FallAa (c : CT) (x : Nat → Int32) : cFall (sAa c x) = cFall c := rfl
theorem cs_FallPr (c : CT) (x : Nat → Int32) : cFall (sPr c x) = cFall c := rfl
theorem cs_FallBr (c : CT) (x : Nat → Int32) : cFall (sBr c x) = cFall c := rfl
theorem cs_FallFe (c : CT) (x : Nat → Int32) : cFall (sFe c x) = cFall c := rfl
theorem cs_FallLov (c : CT) (x : Int32) : cFall (sLov c x) = cFall c := rfl
theorem cs_DayPp (c : CT) (x : Int32) : cDay (sPp c x) = cDay c := rfl
theorem cs_DayKd (c : CT) (x : Nat → Int32) : cDay (sKd c x) = cDay c := rfl
theorem cs_DayAa (c : CT) (x : Nat → Int32) : cDay (sAa c x) = cDay c := rfl
theorem cs_DayPr (c : CT) (x : Nat → Int32) : cDay (sPr c x) = cDay c := rfl
theorem cs_DayBr (c : CT) (x : Nat → Int32) : cDay (sBr c x) = cDay c := rfl
theorem cs_DayFe (c : CT) (x : Nat → Int32) : cDay (sFe c x) = cDay c := rfl
theorem cs_DayLov (c : CT) (x : Int32) : cDay (sLov c x) = cDay c := rfl
theorem cs_WinPp (c : CT) (x : Int32) : cWin (sPp c x) = cWin c := rfl
theorem cs_WinKd (c : CT) (x : Nat → Int32) : cWin (sKd c x) = cWin c := rfl
theorem cs_WinAa (c : CT) (x : Nat → Int32) : cWin (sAa c x) = cWin c := rfl
theorem cs_WinPr (c : CT) (x : Nat → Int32) : cWin (sPr c x) = cWin c := rfl
theorem cs_WinBr (c : CT) (x : Nat → Int32) : cWin (sBr c x) = cWin c := rfl
theorem cs_WinFe (c : CT) (x : Nat → Int32) : cWin (sFe c x) = cWin c := rfl
theorem cs_WinLov (c : CT) (x : Int32) : cWin (sLov c x) = cWin c := rfl
theorem cs_CoalPp (c : CT) (x : Int32) : cCoal (sPp c x) = cCoal c := rfl
theorem cs_CoalKd (c : CT) (x : Nat → Int32) : cCoal (sKd c x) = cCoal c := rfl
theorem cs_CoalAa (c : CT) (x : Nat → Int32) : cCoal (sAa c x) = cCoal c := rfl
theorem cs_CoalPr (c : CT) (x : Nat → Int32) : cCoal (sPr c x) = cCoal c := rfl
theorem cs_CoalBr (c : CT) (x : Nat → Int32) : cCoal (sBr c x) = cCoal c := rfl
theorem cs_CoalFe (c : CT) (x : Nat → Int32) : cCoal (sFe c x) = cCoal c := rfl
theorem cs_CoalLov (c : CT) (x : Int32) : cCoal (sLov c x) = cCoal c := rfl
theorem cs_SeedPp (c : CT) (x : Int32) : cSeed (sPp c x) = cSeed c := rfl
theorem cs_SeedKd (c : CT) (x : Nat → Int32) : cSeed (sKd c x) = cSeed c := rfl
theorem cs_SeedAa (c : CT) (x : Nat → Int32) : cSeed (sAa c x) = cSeed c := rfl
theorem cs_SeedPr (c : CT) (x : Nat → Int32) : cSeed (sPr c x) = cSeed c := rfl
theorem cs_SeedBr (c : CT) (x : Nat → Int32) : cSeed (sBr c x) = cSeed c := rfl
theorem cs_SeedFe (c : CT) (x : Nat → Int32) : cSeed (sFe c x) = cSeed c := rfl
theorem cs_SeedLov (c : CT) (x : Int32) : cSeed (sLov c x) = cSeed c := rfl
theorem cs_LovPp (c : CT) (x : Int32) : cLov (sPp c x) = cLov c := rfl
theorem cs_LovKd (c : CT) (x : Nat → Int32) : cLov (sKd c x) = cLov c := rfl
theorem cs_LovAa (c : CT) (x : Nat → Int32) : cLov (sAa c x) = cLov c := rfl
theorem cs_LovPr (c : CT) (x : Nat → Int32) : cLov (sPr c x) = cLov c := rfl
theorem cs_LovBr (c : CT) (x : Nat → Int32) : cLov (sBr c x) = cLov c := rfl
theorem cs_LovFe (c : CT) (x : Nat → Int32) : cLov (sFe c x) = cLov c := rfl
theorem cs_LovLov (c : CT) (x : Int32) : cLov (sLov c x) = x := rfl
theorem cs_AwayPp (c : CT) (x : Int32) : cAway (sPp c x) = cAway c := rfl
theorem cs_AwayKd (c : CT) (x : Nat → Int32) : cAway (sKd c x) = cAway c := rfl
theorem cs_AwayAa (c : CT) (x : Nat → Int32) : cAway (sAa c x) = cAway c := rfl
theorem cs_AwayPr (c : CT) (x : Nat → Int32) : cAway (sPr c x) = cAway c := rfl
theorem cs_AwayBr (c : CT) (x : Nat → Int32) : cAway (sBr c x) = cAway c := rfl
theorem cs_AwayFe (c : CT) (x : Nat → Int32) : cAway (sFe c x) = cAway c := rfl
theorem cs_AwayLov (c : CT) (x : Int32) : cAway (sLov c x) = cAway c := rfl
theorem cs_KdPp (c : CT) (x : Int32) : cKd (sPp c x) = cKd c := rfl
theorem cs_KdKd (c : CT) (x : Nat → Int32) : cKd (sKd c x) = x := rfl
theorem cs_KdAa (c : CT) (x : Nat → Int32) : cKd (sAa c x) = cKd c := rfl
theorem cs_KdPr (c : CT) (x : Nat → Int32) : cKd (sPr c x) = cKd c := rfl
theorem cs_KdBr (c : CT) (x : Nat → Int32) : cKd (sBr c x) = cKd c := rfl
theorem cs_KdFe (c : CT) (x : Nat → Int32) : cKd (sFe c x) = cKd c := rfl
theorem cs_KdLov (c : CT) (x : Int32) : cKd (sLov c x) = cKd c := rfl
theorem cs_AaPp (c : CT) (x : Int32) : cAa (sPp c x) = cAa c := rfl
theorem cs_AaKd (c : CT) (x : Nat → Int32) : cAa (sKd c x) = cAa c := rfl
theorem cs_AaAa (c : CT) (x : Nat → Int32) : cAa (sAa c x) = x := rfl
theorem cs_AaPr (c : CT) (x : Nat → Int32) : cAa (sPr c x) = cAa c := rfl
theorem cs_AaBr (c : CT) (x : Nat → Int32) : cAa (sBr c x) = cAa c := rfl
theorem cs_AaFe (c : CT) (x : Nat → Int32) : cAa (sFe c x) = cAa c := rfl
theorem cs_AaLov (c : CT) (x : Int32) : cAa (sLov c x) = cAa c := rfl
theorem cs_PrPp (c : CT) (x : Int32) : cPr (sPp c x) = cPr c := rfl
theorem cs_PrKd (c : CT) (x : Nat → Int32) : cPr (sKd c x) = cPr c := rfl
theorem cs_PrAa (c : CT) (x : Nat → Int32) : cPr (sAa c x) = cPr c := rfl
theorem cs_PrPr (c : CT) (x : Nat → Int32) : cPr (sPr c x) = x := rfl
theorem cs_PrBr (c : CT) (x : Nat → Int32) : cPr (sBr c x) = cPr c := rfl
theorem cs_PrFe (c : CT) (x : Nat → Int32) : cPr (sFe c x) = cPr c := rfl
theorem cs_PrLov (c : CT) (x : Int32) : cPr (sLov c x) = cPr c := rfl
theorem cs_BrPp (c : CT) (x : Int32) : cBr (sPp c x) = cBr c := rfl
theorem cs_BrKd (c : CT) (x : Nat → Int32) : cBr (sKd c x) = cBr c := rfl
theorem cs_BrAa (c : CT) (x : Nat → Int32) : cBr (sAa c x) = cBr c := rfl
theorem cs_BrPr (c : CT) (x : Nat → Int32) : cBr (sPr c x) = cBr c := rfl
theorem cs_BrBr (c : CT) (x : Nat → Int32) : cBr (sBr c x) = x := rfl
theorem cs_BrFe (c : CT) (x : Nat → Int32) : cBr (sFe c x) = cBr c := rfl
theorem cs_BrLov (c : CT) (x : Int32) : cBr (sLov c x) = cBr c := rfl
theorem cs_FePp (c : CT) (x : Int32) : cFe (sPp c x) = cFe c := rfl
theorem cs_FeKd (c : CT) (x : Nat → Int32) : cFe (sKd c x) = cFe c := rfl
theorem cs_FeAa (c : CT) (x : Nat → Int32) : cFe (sAa c x) = cFe c := rfl
theorem cs_FePr (c : CT) (x : Nat → Int32) : cFe (sPr c x) = cFe c := rfl
theorem cs_FeBr (c : CT) (x : Nat → Int32) : cFe (sBr c x) = cFe c := rfl
theorem cs_FeFe (c : CT) (x : Nat → Int32) : cFe (sFe c x) = x := rfl
theorem cs_FeLov (c : CT) (x : Int32) : cFe (sLov c x) = cFe c := rfl
theorem zs_Pp (c : CT) (k a p : Int32) : cPp (zsettle c k a p) = cPp c + 1 := by unfold zsettle; rw [cs_PpLov, cs_PpFe, cs_PpBr, cs_PpPr, cs_PpAa, cs_PpKd, cs_PpPp]
theorem zs_Air (c : CT) (k a p : Int32) : cAir (zsettle c k a p) = cAir c := by unfold zsettle; rw [cs_AirLov, cs_AirFe, cs_AirBr, cs_AirPr, cs_AirAa, cs_AirKd, cs_AirPp]
theorem zs_Fall (c : CT) (k a p : Int32) : cFall (zsettle c k a p) = cFall c := by unfold zsettle; rw [cs_FallLov, cs_FallFe, cs_FallBr, cs_FallPr, cs_FallAa, cs_FallKd, cs_FallPp]
theorem zs_Day (c : CT) (k a p : Int32) : cDay (zsettle c k a p) = cDay c := by unfold zsettle; rw [cs_DayLov, cs_DayFe, cs_DayBr, cs_DayPr, cs_DayAa, cs_DayKd, cs_DayPp]
theorem zs_Win (c : CT) (k a p : Int32) : cWin (zsettle c k a p) = cWin c := by unfold zsettle; rw [cs_WinLov, cs_WinFe, cs_WinBr, cs_WinPr, cs_WinAa, cs_WinKd, cs_WinPp]
theorem zs_Coal (c : CT) (k a p : Int32) : cCoal (zsettle c k a p) = cCoal c := by unfold zsettle; rw [cs_CoalLov, cs_CoalFe, cs_CoalBr, cs_CoalPr, cs_CoalAa, cs_CoalKd, cs_CoalPp]
theorem zs_Seed (c : CT) (k a p : Int32) : cSeed (zsettle c k a p) = cSeed c := by unfold zsettle; rw [cs_SeedLov, cs_SeedFe, cs_SeedBr, cs_SeedPr, cs_SeedAa, cs_SeedKd, cs_SeedPp]
theorem zs_Lov (c : CT) (k a p : Int32) : cLov (zsettle c k a p) = cLov c + b2i (k = 4) := by unfold zsettle; rw [cs_LovLov]
theorem zs_Away (c : CT) (k a p : Int32) : cAway (zsettle c k a p) = cAway c := by unfold zsettle; rw [cs_AwayLov, cs_AwayFe, cs_AwayBr, cs_AwayPr, cs_AwayAa, cs_AwayKd, cs_AwayPp]
theorem zs_Kd (c : CT) (k a p : Int32) : cKd (zsettle c k a p) = va_up (cKd c) (cN c) k := by unfold zsettle; rw [cs_KdLov, cs_KdFe, cs_KdBr, cs_KdPr, cs_KdAa, cs_KdKd]
theorem zs_Aa (c : CT) (k a p : Int32) : cAa (zsettle c k a p) = va_up (cAa c) (cN c) a := by unfold zsettle; rw [cs_AaLov, cs_AaFe, cs_AaBr, cs_AaPr, cs_AaAa]
theorem zs_Pr (c : CT) (k a p : Int32) : cPr (zsettle c k a p) = va_up (cPr c) (cN c) p := by unfold zsettle; rw [cs_PrLov, cs_PrFe, cs_PrBr, cs_PrPr]
theorem zs_Br (c : CT) (k a p : Int32) : cBr (zsettle c k a p) = va_up (cBr c) (cN c) 0 := by unfold zsettle; rw [cs_BrLov, cs_BrFe, cs_BrBr]
theorem zs_Fe (c : CT) (k a p : Int32) : cFe (zsettle c k a p) = va_up (cFe c) (cN c) 0 := by unfold zsettle; rw [cs_FeLov, cs_FeFe]
theorem cW_settle {c : CT} {k a p : Int32} (h : cW c) (h7 : cN c < 8) (hk : iR k 5) (ha : iR a 9) (hp : iR p 20) : cW (zsettle c k a p) := by
  obtain ⟨h1, h2, h3, h4, h5⟩ := h
  have hN := cN_settle h1.1 h7 k a p
  have hO := (cOk_settle h1.1 h7 k a p).1
  have q1 : iR (cAir (zsettle c k a p)) 40 := by rw [zs_Air]; exact h1.2.1
  have q2 : iR (cFall (zsettle c k a p)) 5 := by rw [zs_Fall]; exact h1.2.2.1
  have q3 : ∀ q, q < cN (zsettle c k a p) → iR (cAa (zsettle c k a p) q) 9 ∧ iR (cBr (zsettle c k a p) q) 9 ∧ iR (cFe (zsettle c k a p) q) 40 ∧ iR (cPr (zsettle c k a p) q) 20 ∧ iR (cKd (zsettle c k a p) q) 5 := by
    intro q hq
    rw [hN] at hq
    rw [zs_Aa, zs_Br, zs_Fe, zs_Pr, zs_Kd]
    by_cases e : q = cN c
    · subst e
      rw [az_up_self, az_up_self, az_up_self, az_up_self, az_up_self]
      exact ⟨ha, by unfold iR; decide, by unfold iR; decide, hp, hk⟩
    · rw [az_up_ne e, az_up_ne e, az_up_ne e, az_up_ne e, az_up_ne e]
      exact h1.2.2.2 q (by omega)
  have q4 : cTl (zsettle c k a p) := by
    intro j hj
    rw [zs_Aa, zs_Br, zs_Fe, zs_Pr, zs_Kd]
    rw [az_up_ne (by omega), az_up_ne (by omega), az_up_ne (by omega), az_up_ne (by omega), az_up_ne (by omega)]
    exact h2 j hj
  have q5 : cAway (zsettle c k a p) = -1 := by rw [zs_Away]; exact h3
  have q6 : iR (cDay (zsettle c k a p)) 999 := by rw [zs_Day]; exact h5
  have q7 : cLov (zsettle c k a p) = nI (zlov (zsettle c k a p)) := by
    rw [zs_Lov]
    have e0 : zlov c = fa_cnt (fun q => decide (cKd (zsettle c k a p) q = 4)) (cN c) := by
      refine fa_cnt_cong (fun q hq => ?_)
      rw [zs_Kd, az_up_ne (by omega)]
    have ek : cKd (zsettle c k a p) (cN c) = k := by rw [zs_Kd]; exact az_up_self
    unfold zlov
    rw [hN]
    by_cases e : k = 4
    · rw [fa_cnt_yes (by rw [ek]; exact decide_eq_true e), ← e0, h4, b2i, if_pos e]
      exact nI_1 _
    · rw [fa_cnt_no (by rw [ek]; exact decide_eq_false e), ← e0, h4, b2i, if_neg e, Int32.add_zero]
  exact ⟨⟨hO, q1, q2, q3⟩, q4, q5, q7, q6⟩
theorem cW_pr {c : CT} (h : cW c) {p : Nat} {v : Int32} (hp : p < 8) (hv : iR v 20) : cW (sPr c (va_up (cPr c) p v)) := by
  obtain ⟨h1, h2, h3, h4, h5⟩ := h
  refine ⟨⟨h1.1, h1.2.1, h1.2.2.1, ?_⟩, cTl_pr h2 hp v, h3, h4, h5⟩
  intro q hq
  obtain ⟨a1, a2, a3, a4, a5⟩ := h1.2.2.2 q hq
  refine ⟨a1, a2, a3, ?_, a5⟩
  show iR (va_up (cPr c) p v q) 20
  by_cases e : q = p
  · subst e; rw [az_up_self]; exact hv
  · rw [az_up_ne e]; exact a4
theorem cTl_br {c : CT} (h : cTl c) {p : Nat} (hp : p < 8) (v : Int32) : cTl (sBr c (va_up (cBr c) p v)) := fun j hj => ⟨(h j hj).1, (h j hj).2.1, (h j hj).2.2.1, by show va_up _ _ _ _ = _; rw [az_up_ne (by omega)]; exact (h j hj).2.2.2.1, (h j hj).2.2.2.2⟩
theorem cRng_br {c : CT} (h : cRng c) {p : Nat} {v : Int32} (hv : iR v 9) : cRng (sBr c (va_up (cBr c) p v)) := by
  refine ⟨h.1, h.2.1, h.2.2.1, ?_⟩
  intro q hq
  obtain ⟨a1, a2, a3, a4, a5⟩ := h.2.2.2 q hq
  refine ⟨a1, ?_, a3, a4, a5⟩
  show iR (va_up (cBr c) p v q) 9
  by_cases e : q = p
  · subst e; rw [az_up_self]; exact hv
  · rw [az_up_ne e]; exact a2
theorem cW_br {c : CT} (h : cW c) {p : Nat} {v : Int32} (hp : p < 8) (hv : iR v 9) : cW (sBr c (va_up (cBr c) p v)) := ⟨cRng_br h.1 hv, cTl_br h.2.1 hp v, h.2.2.1, h.2.2.2.1, h.2.2.2.2⟩
theorem cW_feF {c : CT} (h : cW c) {f : Nat → Int32} (h1 : ∀ p, p < cN c → iR (f p) 40) (h2 : ∀ j, 8 ≤ j → f j = 0) : cW (sFe c f) := ⟨cRng_fe h.1 h1, cTl_fe h.2.1 h2, h.2.2.1, h.2.2.2.1, h.2.2.2.2⟩
theorem cW_fe {c : CT} (h : cW c) {p : Nat} {v : Int32} (hp : p < 8) (hv : iR v 40) : cW (sFe c (va_up (cFe c) p v)) := by
  refine cW_feF h (fun q hq => ?_) (fun j hj => by rw [az_up_ne (by omega)]; exact (h.2.1 j hj).2.2.2.2)
  by_cases e : q = p
  · subst e; rw [az_up_self]; exact hv
  · rw [az_up_ne e]; exact (h.1.2.2.2 q hq).2.2.1
theorem cW_set {c : CT} (h : cW c) {w : Nat} {v : Int32} (hv : 0 ≤ v ∧ v ≤ zmt w) : cW (zset c w v) := by
  unfold zmt at hv
  unfold zset
  by_cases h0 : w = 0
  · rw [if_pos h0] at hv ⊢
    exact ⟨⟨h.1.1, iR_ofI (m := 40) hv (by decide), h.1.2.2⟩, h.2⟩
  · rw [if_neg h0] at hv ⊢
    by_cases h1 : w = 1
    · rw [if_pos h1] at hv ⊢
      exact ⟨⟨h.1.1, h.1.2.1, iR_ofI (m := 5) hv (by decide), h.1.2.2.2⟩, h.2⟩
    · rw [if_neg h1] at hv ⊢
      by_cases h2 : w = 2
      · rw [if_pos h2] at hv ⊢
        exact ⟨h.1, h.2.1, h.2.2.1, h.2.2.2.1, iR_ofI (m := 999) hv (by decide)⟩
      · rw [if_neg h2]
        exact h
theorem WF_N {σ : SGM} (h : WF σ) {c : CT} (hc : cW c) (hn : cN (xN σ) ≤ cN c) : WF (yN σ c) := by
  refine ⟨hc, h.2.1, h.2.2.1, fun s hs => ?_⟩
  obtain ⟨a1, a2, a3, a4, a5⟩ := h.2.2.2 s hs
  exact ⟨a1, a2, a3, a4, a5.imp id (fun ⟨p, hp, e⟩ => ⟨p, Nat.lt_of_lt_of_le hp hn, e⟩)⟩
theorem cW_cool {c : CT} (h : cW c) : cW (zcool 1 c) := ⟨cRng_cool h.1, cTl_cool h.2.1 h.1.1.2, h.2.2.1, h.2.2.2.1, h.2.2.2.2⟩
theorem cW_days {c : CT} (h : cW c) : ∀ k, cW (zdays k c)
  | 0 => h
  | k + 1 => cW_cool (cW_days h k)
theorem iR_day {x : Int32} (h : iR x 999) : iR (mnI 999 (x + 1)) 999 ∧ mnI 999 (x + 1) = (if x < 999 then x + 1 else 999) := by
  obtain ⟨k, hk, rfl⟩ := iR_nI (m := 999) h
  rw [nI_1]
  unfold mnI
  by_cases q : k + 1 < 999
  · rw [if_pos (show nI (k + 1) < 999 from nI_lt (b := 999) q (by decide)), if_pos (show nI k < 999 from nI_lt (b := 999) (by omega) (by decide))]
    exact ⟨iR_of (m := 999) (by omega) (by decide), rfl⟩
  · rw [if_neg (show ¬ nI (k + 1) < 999 from nI_nlt (a := k + 1) (b := 999) (by omega) (by omega))]
    refine ⟨by unfold iR; decide, ?_⟩
    by_cases q2 : k < 999
    · rw [if_pos (show nI k < 999 from nI_lt (b := 999) q2 (by decide)), show k + 1 = 999 by omega]; rfl
    · rw [if_neg (show ¬ nI k < 999 from nI_nlt (a := k) (b := 999) (by omega) (by omega))]
theorem cW_pass {c : CT} (h : cW c) : cW (zpass c) := by
  have h2 : ∀ e : CT, cW e → cW (sDay (zcool 1 e) (mnI 999 (cDay (zcool 1 e) + 1))) := fun e he => ⟨(cW_cool he).1, (cW_cool he).2.1, (cW_cool he).2.2.1, (cW_cool he).2.2.2.1, (iR_day (cW_cool he).2.2.2.2).1⟩
  unfold zpass
  by_cases q : cWin c = -1 ∧ zso c = true
  · rw [if_pos q]; exact h2 (sWin c (cDay c)) h
  · rw [if_neg q]; exact h2 c h
theorem cN_pass (c : CT) : cN (zpass c) = cN c := by
  unfold zpass
  by_cases q : cWin c = -1 ∧ zso c = true
  · rw [if_pos q]; rfl
  · rw [if_neg q]; rfl
theorem cPp_pass (c : CT) : cPp (zpass c) = cPp c := by
  unfold zpass
  by_cases q : cWin c = -1 ∧ zso c = true
  · rw [if_pos q]; rfl
  · rw [if_neg q]; rfl
theorem cW_pn2 {c : CT} (h : cW c) : ∀ k, cW (zpn2 k c) ∧ cN (zpn2 k c) = cN c
  | 0 => ⟨h, rfl⟩
  | k + 1 => ⟨cW_pass (cW_pn2 h k).1, (cN_pass _).trans (cW_pn2 h k).2⟩
theorem zdraw_rng {c : CT} {n : Nat} (h0 : 0 < n) (hn : n < 100) : ∃ k, k < n ∧ zdraw c (nI n) = nI k := by
  unfold zdraw
  generalize (cSeed c * 1103515245 + 12345 : Int32) = x
  have hx : ∃ m : Nat, m < 2 ^ 16 ∧ (x.toUInt32 >>> ((16 : Int32).toUInt32 &&& Int32.toUInt32 31)).toInt32 = nI m := by
    refine ⟨x.toUInt32.toNat / 2 ^ 16, ?_, ?_⟩
    · have := x.toUInt32.toNat_lt
      omega
    · have e : ((16 : Int32).toUInt32 &&& Int32.toUInt32 31) = 16 := by decide
      rw [e]
      have e2 : (x.toUInt32 >>> (16 : UInt32)) = UInt32.ofNat (x.toUInt32.toNat / 2 ^ 16) := by
        apply UInt32.toNat_inj.mp
        have h9 := x.toUInt32.toNat_lt
        have e3 : (16 : UInt32).toNat = 16 := rfl
        rw [UInt32.toNat_shiftRight, UInt32.toNat_ofNat', e3, Nat.shiftRight_eq_div_pow, show 16 % 32 = 16 from rfl, Nat.mod_eq_of_lt (by omega)]
      rw [e2]
      rfl
  obtain ⟨m, hm, e⟩ := hx
  refine ⟨m % n, Nat.mod_lt _ h0, ?_⟩
  show (let y := (x.toUInt32 >>> ((16 : Int32).toUInt32 &&& Int32.toUInt32 31)).toInt32; y - y / nI n * nI n) = _
  rw [e]
  exact pk_rem (by omega) h0 (by omega)
