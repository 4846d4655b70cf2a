/-! rows of setters -/
theorem cs_PpAir (c : CT) (x : Int32) : cPp (sAir c x) = cPp c := rfl
theorem cs_PpFall (c : CT) (x : Int32) : cPp (sFall c x) = cPp c := rfl
theorem cs_PpDay (c : CT) (x : Int32) : cPp (sDay c x) = cPp c := rfl
theorem cs_PpWin (c : CT) (x : Int32) : cPp (sWin c x) = cPp c := rfl
theorem cs_PpCoal (c : CT) (x : Int32) : cPp (sCoal c x) = cPp c := rfl
theorem cs_PpSeed (c : CT) (x : Int32) : cPp (sSeed c x) = cPp c := rfl
theorem cs_PpAway (c : CT) (x : Int32) : cPp (sAway c x) = cPp c := rfl
theorem cs_AirAir (c : CT) (x : Int32) : cAir (sAir c x) = x := rfl
theorem cs_AirFall (c : CT) (x : Int32) : cAir (sFall c x) = cAir c := rfl
theorem cs_AirDay (c : CT) (x : Int32) : cAir (sDay c x) = cAir c := rfl
theorem cs_AirWin (c : CT) (x : Int32) : cAir (sWin c x) = cAir c := rfl
theorem cs_AirCoal (c : CT) (x : Int32) : cAir (sCoal c x) = cAir c := rfl
theorem cs_AirSeed (c : CT) (x : Int32) : cAir (sSeed c x) = cAir c := rfl
theorem cs_AirAway (c : CT) (x : Int32) : cAir (sAway c x) = cAir c := rfl
theorem cs_FallAir (c : CT) (x : Int32) : cFall (sAir c x) = cFall c := rfl
theorem cs_FallFall (c : CT) (x : Int32) : cFall (sFall c x) = x := rfl
theorem cs_FallDay (c : CT) (x : Int32) : cFall (sDay c x) = cFall c := rfl
theorem cs_FallWin (c : CT) (x : Int32) : cFall (sWin c x) = cFall c := rfl
theorem cs_FallCoal (c : CT) (x : Int32) : cFall (sCoal c x) = cFall c := rfl
theorem cs_FallSeed (c : CT) (x : Int32) : cFall (sSeed c x) = cFall c := rfl
theorem cs_FallAway (c : CT) (x : Int32) : cFall (sAway c x) = cFall c := rfl
theorem cs_DayAir (c : CT) (x : Int32) : cDay (sAir c x) = cDay c := rfl
theorem cs_DayFall (c : CT) (x : Int32) : cDay (sFall c x) = cDay c := rfl
theorem cs_DayDay (c : CT) (x : Int32) : cDay (sDay c x) = x := rfl
theorem cs_DayWin (c : CT) (x : Int32) : cDay (sWin c x) = cDay c := rfl
theorem cs_DayCoal (c : CT) (x : Int32) : cDay (sCoal c x) = cDay c := rfl
theorem cs_DaySeed (c : CT) (x : Int32) : cDay (sSeed c x) = cDay c := rfl
theorem cs_DayAway (c : CT) (x : Int32) : cDay (sAway c x) = cDay c := rfl
theorem cs_WinAir (c : CT) (x : Int32) : cWin (sAir c x) = cWin c := rfl
theorem cs_WinFall (c : CT) (x : Int32) : cWin (sFall c x) = cWin c := rfl
theorem cs_WinDay (c : CT) (x : Int32) : cWin (sDay c x) = cWin c := rfl
theorem cs_WinWin (c : CT) (x : Int32) : cWin (sWin c x) = x := rfl
theorem cs_WinCoal (c : CT) (x : Int32) : cWin (sCoal c x) = cWin c := rfl
theorem cs_WinSeed (c : CT) (x : Int32) : cWin (sSeed c x) = cWin c := rfl
theorem cs_WinAway (c : CT) (x : Int32) : cWin (sAway c x) = cWin c := rfl
theorem cs_CoalAir (c : CT) (x : Int32) : cCoal (sAir c x) = cCoal c := rfl
theorem cs_CoalFall (c : CT) (x : Int32) : cCoal (sFall c x) = cCoal c := rfl
theorem cs_CoalDay (c : CT) (x : Int32) : cCoal (sDay c x) = cCoal c := rfl
theorem cs_CoalWin (c : CT) (x : Int32) : cCoal (sWin c x) = cCoal c := rfl
theorem cs_CoalCoal (c : CT) (x : Int32) : cCoal (sCoal c x) = x := rfl
theorem cs_CoalSeed (c : CT) (x : Int32) : cCoal (sSeed c x) = cCoal c := rfl
theorem cs_CoalAway (c : CT) (x : Int32) : cCoal (sAway c x) = cCoal c := rfl
theorem cs_SeedAir (c : CT) (x : Int32) : cSeed (sAir c x) = cSeed c := rfl
theorem cs_SeedFall (c : CT) (x : Int32) : cSeed (sFall c x) = cSeed c := rfl
theorem cs_SeedDay (c : CT) (x : Int32) : cSeed (sDay c x) = cSeed c := rfl
theorem cs_SeedWin (c : CT) (x : Int32) : cSeed (sWin c x) = cSeed c := rfl
theorem cs_SeedCoal (c : CT) (x : Int32) : cSeed (sCoal c x) = cSeed c := rfl
theorem cs_SeedSeed (c : CT) (x : Int32) : cSeed (sSeed c x) = x := rfl
theorem cs_SeedAway (c : CT) (x : Int32) : cSeed (sAway c x) = cSeed c := rfl
theorem cs_LovAir (c : CT) (x : Int32) : cLov (sAir c x) = cLov c := rfl
theorem cs_LovFall (c : CT) (x : Int32) : cLov (sFall c x) = cLov c := rfl
theorem cs_LovDay (c : CT) (x : Int32) : cLov (sDay c x) = cLov c := rfl
theorem cs_LovWin (c : CT) (x : Int32) : cLov (sWin c x) = cLov c := rfl
theorem cs_LovCoal (c : CT) (x : Int32) : cLov (sCoal c x) = cLov c := rfl
theorem cs_LovSeed (c : CT) (x : Int32) : cLov (sSeed c x) = cLov c := rfl
theorem cs_LovAway (c : CT) (x : Int32) : cLov (sAway c x) = cLov c := rfl
theorem cs_AwayAir (c : CT) (x : Int32) : cAway (sAir c x) = cAway c := rfl
theorem cs_AwayFall (c : CT) (x : Int32) : cAway (sFall c x) = cAway c := rfl
theorem cs_AwayDay (c : CT) (x : Int32) : cAway (sDay c x) = cAway c := rfl
theorem cs_AwayWin (c : CT) (x : Int32) : cAway (sWin c x) = cAway c := rfl
theorem cs_AwayCoal (c : CT) (x : Int32) : cAway (sCoal c x) = cAway c := rfl
theorem cs_AwaySeed (c : CT) (x : Int32) : cAway (sSeed c x) = cAway c := rfl
theorem cs_AwayAway (c : CT) (x : Int32) : cAway (sAway c x) = x := rfl
theorem cs_KdAir (c : CT) (x : Int32) : cKd (sAir c x) = cKd c := rfl
theorem cs_KdFall (c : CT) (x : Int32) : cKd (sFall c x) = cKd c := rfl
theorem cs_KdDay (c : CT) (x : Int32) : cKd (sDay c x) = cKd c := rfl
theorem cs_KdWin (c : CT) (x : Int32) : cKd (sWin c x) = cKd c := rfl
theorem cs_KdCoal (c : CT) (x : Int32) : cKd (sCoal c x) = cKd c := rfl
theorem cs_KdSeed (c : CT) (x : Int32) : cKd (sSeed c x) = cKd c := rfl
theorem cs_KdAway (c : CT) (x : Int32) : cKd (sAway c x) = cKd c := rfl
theorem cs_AaAir (c : CT) (x : Int32) : cAa (sAir c x) = cAa c := rfl
theorem cs_AaFall (c : CT) (x : Int32) : cAa (sFall c x) = cAa c := rfl
theorem cs_AaDay (c : CT) (x : Int32) : cAa (sDay c x) = cAa c := rfl
theorem cs_AaWin (c : CT) (x : Int32) : cAa (sWin c x) = cAa c := rfl
theorem cs_AaCoal (c : CT) (x : Int32) : cAa (sCoal c x) = cAa c := rfl
theorem cs_AaSeed (c : CT) (x : Int32) : cAa (sSeed c x) = cAa c := rfl
theorem cs_AaAway (c : CT) (x : Int32) : cAa (sAway c x) = cAa c := rfl
theorem cs_PrAir (c : CT) (x : Int32) : cPr (sAir c x) = cPr c := rfl
theorem cs_PrFall (c : CT) (x : Int32) : cPr (sFall c x) = cPr c := rfl
theorem cs_PrDay (c : CT) (x : Int32) : cPr (sDay c x) = cPr c := rfl
theorem cs_PrWin (c : CT) (x : Int32) : cPr (sWin c x) = cPr c := rfl
theorem cs_PrCoal (c : CT) (x : Int32) : cPr (sCoal c x) = cPr c := rfl
theorem cs_PrSeed (c : CT) (x : Int32) : cPr (sSeed c x) = cPr c := rfl
theorem cs_PrAway (c : CT) (x : Int32) : cPr (sAway c x) = cPr c := rfl
theorem cs_BrAir (c : CT) (x : Int32) : cBr (sAir c x) = cBr c := rfl
theorem cs_BrFall (c : CT) (x : Int32) : cBr (sFall c x) = cBr c := rfl
theorem cs_BrDay (c : CT) (x : Int32) : cBr (sDay c x) = cBr c := rfl
theorem cs_BrWin (c : CT) (x : Int32) : cBr (sWin c x) = cBr c := rfl
theorem cs_BrCoal (c : CT) (x : Int32) : cBr (sCoal c x) = cBr c := rfl
theorem cs_BrSeed (c : CT) (x : Int32) : cBr (sSeed c x) = cBr c := rfl
theorem cs_BrAway (c : CT) (x : Int32) : cBr (sAway c x) = cBr c := rfl
theorem cs_FeAir (c : CT) (x : Int32) : cFe (sAir c x) = cFe c := rfl
theorem cs_FeFall (c : CT) (x : Int32) : cFe (sFall c x) = cFe c := rfl
theorem cs_FeDay (c : CT) (x : Int32) : cFe (sDay c x) = cFe c := rfl
theorem cs_FeWin (c : CT) (x : Int32) : cFe (sWin c x) = cFe c := rfl
theorem cs_FeCoal (c : CT) (x : Int32) : cFe (sCoal c x) = cFe c := rfl
theorem cs_FeSeed (c : CT) (x : Int32) : cFe (sSeed c x) = cFe c := rfl
theorem cs_FeAway (c : CT) (x : Int32) : cFe (sAway c x) = cFe c := rfl
theorem ss_Pp (c : CT) (x y : Int32) : sPp (sPp c x) y = sPp c y := by simp only [sPp, cPp, cAir, cFall, cDay, cWin, cCoal, cSeed, cLov, cAway, cKd, cAa, cPr, cBr, cFe]
theorem ss_Air (c : CT) (x y : Int32) : sAir (sAir c x) y = sAir c y := by simp only [sAir, cPp, cAir, cFall, cDay, cWin, cCoal, cSeed, cLov, cAway, cKd, cAa, cPr, cBr, cFe]
theorem ss_Fall (c : CT) (x y : Int32) : sFall (sFall c x) y = sFall c y := by simp only [sFall, cPp, cAir, cFall, cDay, cWin, cCoal, cSeed, cLov, cAway, cKd, cAa, cPr, cBr, cFe]
theorem ss_Day (c : CT) (x y : Int32) : sDay (sDay c x) y = sDay c y := by simp only [sDay, cPp, cAir, cFall, cDay, cWin, cCoal, cSeed, cLov, cAway, cKd, cAa, cPr, cBr, cFe]
theorem ss_Win (c : CT) (x y : Int32) : sWin (sWin c x) y = sWin c y := by simp only [sWin, cPp, cAir, cFall, cDay, cWin, cCoal, cSeed, cLov, cAway, cKd, cAa, cPr, cBr, cFe]
theorem ss_Coal (c : CT) (x y : Int32) : sCoal (sCoal c x) y = sCoal c y := by simp only [sCoal, cPp, cAir, cFall, cDay, cWin, cCoal, cSeed, cLov, cAway, cKd, cAa, cPr, cBr, cFe]
theorem ss_Seed (c : CT) (x y : Int32) : sSeed (sSeed c x) y = sSeed c y := by simp only [sSeed, cPp, cAir, cFall, cDay, cWin, cCoal, cSeed, cLov, cAway, cKd, cAa, cPr, cBr, cFe]
theorem ss_Lov (c : CT) (x y : Int32) : sLov (sLov c x) y = sLov c y := by simp only [sLov, cPp, cAir, cFall, cDay, cWin, cCoal, cSeed, cLov, cAway, cKd, cAa, cPr, cBr, cFe]
theorem ss_Away (c : CT) (x y : Int32) : sAway (sAway c x) y = sAway c y := by simp only [sAway, cPp, cAir, cFall, cDay, cWin, cCoal, cSeed, cLov, cAway, cKd, cAa, cPr, cBr, cFe]
theorem ss_Kd (c : CT) (x y : Nat → Int32) : sKd (sKd c x) y = sKd c y := by simp only [sKd, cPp, cAir, cFall, cDay, cWin, cCoal, cSeed, cLov, cAway, cKd, cAa, cPr, cBr, cFe]
theorem ss_Aa (c : CT) (x y : Nat → Int32) : sAa (sAa c x) y = sAa c y := by simp only [sAa, cPp, cAir, cFall, cDay, cWin, cCoal, cSeed, cLov, cAway, cKd, cAa, cPr, cBr, cFe]
theorem ss_Pr (c : CT) (x y : Nat → Int32) : sPr (sPr c x) y = sPr c y := by simp only [sPr, cPp, cAir, cFall, cDay, cWin, cCoal, cSeed, cLov, cAway, cKd, cAa, cPr, cBr, cFe]
theorem ss_Br (c : CT) (x y : Nat → Int32) : sBr (sBr c x) y = sBr c y := by simp only [sBr, cPp, cAir, cFall, cDay, cWin, cCoal, cSeed, cLov, cAway, cKd, cAa, cPr, cBr, cFe]
theorem ss_Fe (c : CT) (x y : Nat → Int32) : sFe (sFe c x) y = sFe c y := by simp only [sFe, cPp, cAir, cFall, cDay, cWin, cCoal, cSeed, cLov, cAway, cKd, cAa, cPr, cBr, cFe]
theorem sc_AirFe (c : CT) (x : Int32) (y : Nat → Int32) : sFe (sAir c x) y = sAir (sFe c y) x := by simp only [sAir, sFe, cPp, cAir, cFall, cDay, cWin, cCoal, cSeed, cLov, cAway, cKd, cAa, cPr, cBr, cFe]
theorem sc_FeAir (c : CT) (x : Nat → Int32) (y : Int32) : sAir (sFe c x) y = sFe (sAir c y) x := by simp only [sFe, sAir, cPp, cAir, cFall, cDay, cWin, cCoal, cSeed, cLov, cAway, cKd, cAa, cPr, cBr, cFe]
theorem sc_FallFe (c : CT) (x : Int32) (y : Nat → Int32) : sFe (sFall c x) y = sFall (sFe c y) x := by simp only [sFall, sFe, cPp, cAir, cFall, cDay, cWin, cCoal, cSeed, cLov, cAway, cKd, cAa, cPr, cBr, cFe]
theorem sc_FeFall (c : CT) (x : Nat → Int32) (y : Int32) : sFall (sFe c x) y = sFe (sFall c y) x := by simp only [sFe, sFall, cPp, cAir, cFall, cDay, cWin, cCoal, cSeed, cLov, cAway, cKd, cAa, cPr, cBr, cFe]
theorem sc_AirFall (c : CT) (x : Int32) (y : Int32) : sFall (sAir c x) y = sAir (sFall c y) x := by simp only [sAir, sFall, cPp, cAir, cFall, cDay, cWin, cCoal, cSeed, cLov, cAway, cKd, cAa, cPr, cBr, cFe]
theorem sc_FallAir (c : CT) (x : Int32) (y : Int32) : sAir (sFall c x) y = sFall (sAir c y) x := by simp only [sFall, sAir, cPp, cAir, cFall, cDay, cWin, cCoal, cSeed, cLov, cAway, cKd, cAa, cPr, cBr, cFe]
theorem sc_PrAir (c : CT) (x : Nat → Int32) (y : Int32) : sAir (sPr c x) y = sPr (sAir c y) x := by simp only [sPr, sAir, cPp, cAir, cFall, cDay, cWin, cCoal, cSeed, cLov, cAway, cKd, cAa, cPr, cBr, cFe]
theorem sc_AirPr (c : CT) (x : Int32) (y : Nat → Int32) : sPr (sAir c x) y = sAir (sPr c y) x := by simp only [sAir, sPr, cPp, cAir, cFall, cDay, cWin, cCoal, cSeed, cLov, cAway, cKd, cAa, cPr, cBr, cFe]
theorem sc_KdAir (c : CT) (x : Nat → Int32) (y : Int32) : sAir (sKd c x) y = sKd (sAir c y) x := by simp only [sKd, sAir, cPp, cAir, cFall, cDay, cWin, cCoal, cSeed, cLov, cAway, cKd, cAa, cPr, cBr, cFe]
theorem sc_AirKd (c : CT) (x : Int32) (y : Nat → Int32) : sKd (sAir c x) y = sAir (sKd c y) x := by simp only [sAir, sKd, cPp, cAir, cFall, cDay, cWin, cCoal, cSeed, cLov, cAway, cKd, cAa, cPr, cBr, cFe]
theorem cg_Pp {c : CT} {x : Int32} {p : Nat} (h : ¬ nI p = cAway c) : ¬ nI p = cAway (sPp c x) := by rw [cs_AwayPp]; exact h
theorem cn_Air (c : CT) (x : Int32) : cN (sAir c x) = cN c := by unfold cN; rw [cs_PpAir]
theorem co_Air {c : CT} {x : Int32} (h : cOk c) : cOk (sAir c x) := by unfold cOk; rw [cs_PpAir, cn_Air]; exact h
theorem cp_Air {c : CT} {x : Int32} {p : Nat} (h : p < cN c) : p < cN (sAir c x) := by rw [cn_Air]; exact h
theorem cv_Air {c : CT} {x : Int32} (h : cLv c) : cLv (sAir c x) := by unfold cLv mlov; rw [cs_LovAir, cs_KdAir, cs_AwayAir, cn_Air]; exact h
theorem cg_Air {c : CT} {x : Int32} {p : Nat} (h : ¬ nI p = cAway c) : ¬ nI p = cAway (sAir c x) := by rw [cs_AwayAir]; exact h
theorem cn_Fall (c : CT) (x : Int32) : cN (sFall c x) = cN c := by unfold cN; rw [cs_PpFall]
theorem co_Fall {c : CT} {x : Int32} (h : cOk c) : cOk (sFall c x) := by unfold cOk; rw [cs_PpFall, cn_Fall]; exact h
theorem cp_Fall {c : CT} {x : Int32} {p : Nat} (h : p < cN c) : p < cN (sFall c x) := by rw [cn_Fall]; exact h
theorem cv_Fall {c : CT} {x : Int32} (h : cLv c) : cLv (sFall c x) := by unfold cLv mlov; rw [cs_LovFall, cs_KdFall, cs_AwayFall, cn_Fall]; exact h
theorem cg_Fall {c : CT} {x : Int32} {p : Nat} (h : ¬ nI p = cAway c) : ¬ nI p = cAway (sFall c x) := by rw [cs_AwayFall]; exact h
theorem cn_Day (c : CT) (x : Int32) : cN (sDay c x) = cN c := by unfold cN; rw [cs_PpDay]
theorem co_Day {c : CT} {x : Int32} (h : cOk c) : cOk (sDay c x) := by unfold cOk; rw [cs_PpDay, cn_Day]; exact h
theorem cp_Day {c : CT} {x : Int32} {p : Nat} (h : p < cN c) : p < cN (sDay c x) := by rw [cn_Day]; exact h
theorem cv_Day {c : CT} {x : Int32} (h : cLv c) : cLv (sDay c x) := by unfold cLv mlov; rw [cs_LovDay, cs_KdDay, cs_AwayDay, cn_Day]; exact h
theorem cg_Day {c : CT} {x : Int32} {p : Nat} (h : ¬ nI p = cAway c) : ¬ nI p = cAway (sDay c x) := by rw [cs_AwayDay]; exact h
theorem cn_Win (c : CT) (x : Int32) : cN (sWin c x) = cN c := by unfold cN; rw [cs_PpWin]
theorem co_Win {c : CT} {x : Int32} (h : cOk c) : cOk (sWin c x) := by unfold cOk; rw [cs_PpWin, cn_Win]; exact h
theorem cp_Win {c : CT} {x : Int32} {p : Nat} (h : p < cN c) : p < cN (sWin c x) := by rw [cn_Win]; exact h
theorem cv_Win {c : CT} {x : Int32} (h : cLv c) : cLv (sWin c x) := by unfold cLv mlov; rw [cs_LovWin, cs_KdWin, cs_AwayWin, cn_Win]; exact h
theorem cg_Win {c : CT} {x : Int32} {p : Nat} (h : ¬ nI p = cAway c) : ¬ nI p = cAway (sWin c x) := by rw [cs_AwayWin]; exact h
theorem cn_Coal (c : CT) (x : Int32) : cN (sCoal c x) = cN c := by unfold cN; rw [cs_PpCoal]
theorem co_Coal {c : CT} {x : Int32} (h : cOk c) : cOk (sCoal c x) := by unfold cOk; rw [cs_PpCoal, cn_Coal]; exact h
theorem cp_Coal {c : CT} {x : Int32} {p : Nat} (h : p < cN c) : p < cN (sCoal c x) := by rw [cn_Coal]; exact h
theorem cv_Coal {c : CT} {x : Int32} (h : cLv c) : cLv (sCoal c x) := by unfold cLv mlov; rw [cs_LovCoal, cs_KdCoal, cs_AwayCoal, cn_Coal]; exact h
theorem cg_Coal {c : CT} {x : Int32} {p : Nat} (h : ¬ nI p = cAway c) : ¬ nI p = cAway (sCoal c x) := by rw [cs_AwayCoal]; exact h
theorem cn_Seed (c : CT) (x : Int32) : cN (sSeed c x) = cN c := by unfold cN; rw [cs_PpSeed]
theorem co_Seed {c : CT} {x : Int32} (h : cOk c) : cOk (sSeed c x) := by unfold cOk; rw [cs_PpSeed, cn_Seed]; exact h
theorem cp_Seed {c : CT} {x : Int32} {p : Nat} (h : p < cN c) : p < cN (sSeed c x) := by rw [cn_Seed]; exact h
theorem cv_Seed {c : CT} {x : Int32} (h : cLv c) : cLv (sSeed c x) := by unfold cLv mlov; rw [cs_LovSeed, cs_KdSeed, cs_AwaySeed, cn_Seed]; exact h
theorem cg_Seed {c : CT} {x : Int32} {p : Nat} (h : ¬ nI p = cAway c) : ¬ nI p = cAway (sSeed c x) := by rw [cs_AwaySeed]; exact h
theorem cn_Lov (c : CT) (x : Int32) : cN (sLov c x) = cN c := by unfold cN; rw [cs_PpLov]
theorem co_Lov {c : CT} {x : Int32} (h : cOk c) : cOk (sLov c x) := by unfold cOk; rw [cs_PpLov, cn_Lov]; exact h
theorem cp_Lov {c : CT} {x : Int32} {p : Nat} (h : p < cN c) : p < cN (sLov c x) := by rw [cn_Lov]; exact h
theorem cg_Lov {c : CT} {x : Int32} {p : Nat} (h : ¬ nI p = cAway c) : ¬ nI p = cAway (sLov c x) := by rw [cs_AwayLov]; exact h
theorem cn_Away (c : CT) (x : Int32) : cN (sAway c x) = cN c := by unfold cN; rw [cs_PpAway]
theorem co_Away {c : CT} {x : Int32} (h : cOk c) : cOk (sAway c x) := by unfold cOk; rw [cs_PpAway, cn_Away]; exact h
theorem cp_Away {c : CT} {x : Int32} {p : Nat} (h : p < cN c) : p < cN (sAway c x) := by rw [cn_Away]; exact h
theorem cn_Kd (c : CT) (x : Nat → Int32) : cN (sKd c x) = cN c := by unfold cN; rw [cs_PpKd]
theorem co_Kd {c : CT} {x : Nat → Int32} (h : cOk c) : cOk (sKd c x) := by unfold cOk; rw [cs_PpKd, cn_Kd]; exact h
theorem cp_Kd {c : CT} {x : Nat → Int32} {p : Nat} (h : p < cN c) : p < cN (sKd c x) := by rw [cn_Kd]; exact h
theorem cg_Kd {c : CT} {x : Nat → Int32} {p : Nat} (h : ¬ nI p = cAway c) : ¬ nI p = cAway (sKd c x) := by rw [cs_AwayKd]; exact h
theorem cn_Aa (c : CT) (x : Nat → Int32) : cN (sAa c x) = cN c := by unfold cN; rw [cs_PpAa]
theorem co_Aa {c : CT} {x : Nat → Int32} (h : cOk c) : cOk (sAa c x) := by unfold cOk; rw [cs_PpAa, cn_Aa]; exact h
theorem cp_Aa {c : CT} {x : Nat → Int32} {p : Nat} (h : p < cN c) : p < cN (sAa c x) := by rw [cn_Aa]; exact h
theorem cv_Aa {c : CT} {x : Nat → Int32} (h : cLv c) : cLv (sAa c x) := by unfold cLv mlov; rw [cs_LovAa, cs_KdAa, cs_AwayAa, cn_Aa]; exact h
theorem cg_Aa {c : CT} {x : Nat → Int32} {p : Nat} (h : ¬ nI p = cAway c) : ¬ nI p = cAway (sAa c x) := by rw [cs_AwayAa]; exact h
theorem cn_Pr (c : CT) (x : Nat → Int32) : cN (sPr c x) = cN c := by unfold cN; rw [cs_PpPr]
theorem co_Pr {c : CT} {x : Nat → Int32} (h : cOk c) : cOk (sPr c x) := by unfold cOk; rw [cs_PpPr, cn_Pr]; exact h
theorem cp_Pr {c : CT} {x : Nat → Int32} {p : Nat} (h : p < cN c) : p < cN (sPr c x) := by rw [cn_Pr]; exact h
theorem cv_Pr {c : CT} {x : Nat → Int32} (h : cLv c) : cLv (sPr c x) := by unfold cLv mlov; rw [cs_LovPr, cs_KdPr, cs_AwayPr, cn_Pr]; exact h
theorem cg_Pr {c : CT} {x : Nat → Int32} {p : Nat} (h : ¬ nI p = cAway c) : ¬ nI p = cAway (sPr c x) := by rw [cs_AwayPr]; exact h
theorem cn_Br (c : CT) (x : Nat → Int32) : cN (sBr c x) = cN c := by unfold cN; rw [cs_PpBr]
theorem co_Br {c : CT} {x : Nat → Int32} (h : cOk c) : cOk (sBr c x) := by unfold cOk; rw [cs_PpBr, cn_Br]; exact h
theorem cp_Br {c : CT} {x : Nat → Int32} {p : Nat} (h : p < cN c) : p < cN (sBr c x) := by rw [cn_Br]; exact h
theorem cv_Br {c : CT} {x : Nat → Int32} (h : cLv c) : cLv (sBr c x) := by unfold cLv mlov; rw [cs_LovBr, cs_KdBr, cs_AwayBr, cn_Br]; exact h
theorem cg_Br {c : CT} {x : Nat → Int32} {p : Nat} (h : ¬ nI p = cAway c) : ¬ nI p = cAway (sBr c x) := by rw [cs_AwayBr]; exact h
theorem cn_Fe (c : CT) (x : Nat → Int32) : cN (sFe c x) = cN c := by unfold cN; rw [cs_PpFe]
theorem co_Fe {c : CT} {x : Nat → Int32} (h : cOk c) : cOk (sFe c x) := by unfold cOk; rw [cs_PpFe, cn_Fe]; exact h
theorem cp_Fe {c : CT} {x : Nat → Int32} {p : Nat} (h : p < cN c) : p < cN (sFe c x) := by rw [cn_Fe]; exact h
theorem cv_Fe {c : CT} {x : Nat → Int32} (h : cLv c) : cLv (sFe c x) := by unfold cLv mlov; rw [cs_LovFe, cs_KdFe, cs_AwayFe, cn_Fe]; exact h
theorem cg_Fe {c : CT} {x : Nat → Int32} {p : Nat} (h : ¬ nI p = cAway c) : ¬ nI p = cAway (sFe c x) := by rw [cs_AwayFe]; exact h
