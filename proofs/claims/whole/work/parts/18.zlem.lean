def sPp (c : CT) (x : Int32) : CT := (x, cAir c, cFall c, cDay c, cWin c, cCoal c, cSeed c, cLov c, cAway c, cKd c, cAa c, cPr c, cBr c, cFe c)
def sAir (c : CT) (x : Int32) : CT := (cPp c, x, cFall c, cDay c, cWin c, cCoal c, cSeed c, cLov c, cAway c, cKd c, cAa c, cPr c, cBr c, cFe c)
def sFall (c : CT) (x : Int32) : CT := (cPp c, cAir c, x, cDay c, cWin c, cCoal c, cSeed c, cLov c, cAway c, cKd c, cAa c, cPr c, cBr c, cFe c)
def sDay (c : CT) (x : Int32) : CT := (cPp c, cAir c, cFall c, x, cWin c, cCoal c, cSeed c, cLov c, cAway c, cKd c, cAa c, cPr c, cBr c, cFe c)
def sWin (c : CT) (x : Int32) : CT := (cPp c, cAir c, cFall c, cDay c, x, cCoal c, cSeed c, cLov c, cAway c, cKd c, cAa c, cPr c, cBr c, cFe c)
def sCoal (c : CT) (x : Int32) : CT := (cPp c, cAir c, cFall c, cDay c, cWin c, x, cSeed c, cLov c, cAway c, cKd c, cAa c, cPr c, cBr c, cFe c)
def sSeed (c : CT) (x : Int32) : CT := (cPp c, cAir c, cFall c, cDay c, cWin c, cCoal c, x, cLov c, cAway c, cKd c, cAa c, cPr c, cBr c, cFe c)
def sLov (c : CT) (x : Int32) : CT := (cPp c, cAir c, cFall c, cDay c, cWin c, cCoal c, cSeed c, x, cAway c, cKd c, cAa c, cPr c, cBr c, cFe c)
def sAway (c : CT) (x : Int32) : CT := (cPp c, cAir c, cFall c, cDay c, cWin c, cCoal c, cSeed c, cLov c, x, cKd c, cAa c, cPr c, cBr c, cFe c)
def sKd (c : CT) (x : Nat → Int32) : CT := (cPp c, cAir c, cFall c, cDay c, cWin c, cCoal c, cSeed c, cLov c, cAway c, x, cAa c, cPr c, cBr c, cFe c)
def sAa (c : CT) (x : Nat → Int32) : CT := (cPp c, cAir c, cFall c, cDay c, cWin c, cCoal c, cSeed c, cLov c, cAway c, cKd c, x, cPr c, cBr c, cFe c)
def sPr (c : CT) (x : Nat → Int32) : CT := (cPp c, cAir c, cFall c, cDay c, cWin c, cCoal c, cSeed c, cLov c, cAway c, cKd c, cAa c, x, cBr c, cFe c)
def sBr (c : CT) (x : Nat → Int32) : CT := (cPp c, cAir c, cFall c, cDay c, cWin c, cCoal c, cSeed c, cLov c, cAway c, cKd c, cAa c, cPr c, x, cFe c)
def sFe (c : CT) (x : Nat → Int32) : CT := (cPp c, cAir c, cFall c, cDay c, cWin c, cCoal c, cSeed c, cLov c, cAway c, cKd c, cAa c, cPr c, cBr c, x)
theorem zr_5 (s : Nat → Nat → Int32) (o : Nat) (c : CT) : zput s o c o 5 = cPp c := by rw [zput_o]; rfl
theorem zw_5 (s : Nat → Nat → Int32) (o : Nat) (c : CT) (x : Int32) : az_w (zput s o c) o 5 x = zput s o (sPp c x) := by
  funext k
  by_cases h0 : k = o
  · subst h0
    rw [az_w_same, zput_o, zput_o]
    funext i
    by_cases hi : i = 5
    · subst hi; rw [az_up_self]; rfl
    · rw [az_up_ne hi]
      unfold zrow
      by_cases e1 : i = 6
      · rw [if_neg hi, if_pos e1, if_neg hi, if_pos e1]; rfl
      by_cases e2 : i = 7
      · rw [if_neg hi, if_neg e1, if_pos e2, if_neg hi, if_neg e1, if_pos e2]; rfl
      by_cases e3 : i = 8
      · rw [if_neg hi, if_neg e1, if_neg e2, if_pos e3, if_neg hi, if_neg e1, if_neg e2, if_pos e3]; rfl
      by_cases e4 : i = 9
      · rw [if_neg hi, if_neg e1, if_neg e2, if_neg e3, if_pos e4, if_neg hi, if_neg e1, if_neg e2, if_neg e3, if_pos e4]; rfl
      by_cases e5 : i = 10
      · rw [if_neg hi, if_neg e1, if_neg e2, if_neg e3, if_neg e4, if_pos e5, if_neg hi, if_neg e1, if_neg e2, if_neg e3, if_neg e4, if_pos e5]; rfl
      by_cases e6 : i = 11
      · rw [if_neg hi, if_neg e1, if_neg e2, if_neg e3, if_neg e4, if_neg e5, if_pos e6, if_neg hi, if_neg e1, if_neg e2, if_neg e3, if_neg e4, if_neg e5, if_pos e6]; rfl
      by_cases e7 : i = 12
      · rw [if_neg hi, if_neg e1, if_neg e2, if_neg e3, if_neg e4, if_neg e5, if_neg e6, if_pos e7, if_neg hi, if_neg e1, if_neg e2, if_neg e3, if_neg e4, if_neg e5, if_neg e6, if_pos e7]; rfl
      by_cases e8 : i = 13
      · rw [if_neg hi, if_neg e1, if_neg e2, if_neg e3, if_neg e4, if_neg e5, if_neg e6, if_neg e7, if_pos e8, if_neg hi, if_neg e1, if_neg e2, if_neg e3, if_neg e4, if_neg e5, if_neg e6, if_neg e7, if_pos e8]; rfl
      rw [if_neg hi, if_neg e1, if_neg e2, if_neg e3, if_neg e4, if_neg e5, if_neg e6, if_neg e7, if_neg e8, if_neg hi, if_neg e1, if_neg e2, if_neg e3, if_neg e4, if_neg e5, if_neg e6, if_neg e7, if_neg e8]
  · rw [az_w_ne h0]
    by_cases h : k < o ∨ o + 6 ≤ k
    · rw [zput_ne h, zput_ne h]
    · have hk : k = o + 1 ∨ k = o + 2 ∨ k = o + 3 ∨ k = o + 4 ∨ k = o + 5 := by omega
      rcases hk with rfl | rfl | rfl | rfl | rfl
      · rw [zput_at.1, zput_at.1]; rfl
      · rw [zput_at.2.1, zput_at.2.1]; rfl
      · rw [zput_at.2.2.1, zput_at.2.2.1]; rfl
      · rw [zput_at.2.2.2.1, zput_at.2.2.2.1]; rfl
      · rw [zput_at.2.2.2.2, zput_at.2.2.2.2]; rfl
theorem zr_6 (s : Nat → Nat → Int32) (o : Nat) (c : CT) : zput s o c o 6 = cAir c := by rw [zput_o]; rfl
theorem zw_6 (s : Nat → Nat → Int32) (o : Nat) (c : CT) (x : Int32) : az_w (zput s o c) o 6 x = zput s o (sAir c x) := by
  funext k
  by_cases h0 : k = o
  · subst h0
    rw [az_w_same, zput_o, zput_o]
    funext i
    by_cases hi : i = 6
    · subst hi; rw [az_up_self]; rfl
    · rw [az_up_ne hi]
      unfold zrow
      by_cases e0 : i = 5
      · rw [if_pos e0, if_pos e0]; rfl
      by_cases e2 : i = 7
      · rw [if_neg e0, if_neg hi, if_pos e2, if_neg e0, if_neg hi, if_pos e2]; rfl
      by_cases e3 : i = 8
      · rw [if_neg e0, if_neg hi, if_neg e2, if_pos e3, if_neg e0, if_neg hi, if_neg e2, if_pos e3]; rfl
      by_cases e4 : i = 9
      · rw [if_neg e0, if_neg hi, if_neg e2, if_neg e3, if_pos e4, if_neg e0, if_neg hi, if_neg e2, if_neg e3, if_pos e4]; rfl
      by_cases e5 : i = 10
      · rw [if_neg e0, if_neg hi, if_neg e2, if_neg e3, if_neg e4, if_pos e5, if_neg e0, if_neg hi, if_neg e2, if_neg e3, if_neg e4, if_pos e5]; rfl
      by_cases e6 : i = 11
      · rw [if_neg e0, if_neg hi, if_neg e2, if_neg e3, if_neg e4, if_neg e5, if_pos e6, if_neg e0, if_neg hi, if_neg e2, if_neg e3, if_neg e4, if_neg e5, if_pos e6]; rfl
      by_cases e7 : i = 12
      · rw [if_neg e0, if_neg hi, if_neg e2, if_neg e3, if_neg e4, if_neg e5, if_neg e6, if_pos e7, if_neg e0, if_neg hi, if_neg e2, if_neg e3, if_neg e4, if_neg e5, if_neg e6, if_pos e7]; rfl
      by_cases e8 : i = 13
      · rw [if_neg e0, if_neg hi, if_neg e2, if_neg e3, if_neg e4, if_neg e5, if_neg e6, if_neg e7, if_pos e8, if_neg e0, if_neg hi, if_neg e2, if_neg e3, if_neg e4, if_neg e5, if_neg e6, if_neg e7, if_pos e8]; rfl
      rw [if_neg e0, if_neg hi, if_neg e2, if_neg e3, if_neg e4, if_neg e5, if_neg e6, if_neg e7, if_neg e8, if_neg e0, if_neg hi, if_neg e2, if_neg e3, if_neg e4, if_neg e5, if_neg e6, if_neg e7, if_neg e8]
  · rw [az_w_ne h0]
    by_cases h : k < o ∨ o + 6 ≤ k
    · rw [zput_ne h, zput_ne h]
    · have hk : k = o + 1 ∨ k = o + 2 ∨ k = o + 3 ∨ k = o + 4 ∨ k = o + 5 := by omega
      rcases hk with rfl | rfl | rfl | rfl | rfl
      · rw [zput_at.1, zput_at.1]; rfl
      · rw [zput_at.2.1, zput_at.2.1]; rfl
      · rw [zput_at.2.2.1, zput_at.2.2.1]; rfl
      · rw [zput_at.2.2.2.1, zput_at.2.2.2.1]; rfl
      · rw [zput_at.2.2.2.2, zput_at.2.2.2.2]; rfl
theorem zr_7 (s : Nat → Nat → Int32) (o : Nat) (c : CT) : zput s o c o 7 = cFall c := by rw [zput_o]; rfl
theorem zw_7 (s : Nat → Nat → Int32) (o : Nat) (c : CT) (x : Int32) : az_w (zput s o c) o 7 x = zput s o (sFall c x) := by
  funext k
  by_cases h0 : k = o
  · subst h0
    rw [az_w_same, zput_o, zput_o]
    funext i
    by_cases hi : i = 7
    · subst hi; rw [az_up_self]; rfl
    · rw [az_up_ne hi]
      unfold zrow
      by_cases e0 : i = 5
      · rw [if_pos e0, if_pos e0]; rfl
      by_cases e1 : i = 6
      · rw [if_neg e0, if_pos e1, if_neg e0, if_pos e1]; rfl
      by_cases e3 : i = 8
      · rw [if_neg e0, if_neg e1, if_neg hi, if_pos e3, if_neg e0, if_neg e1, if_neg hi, if_pos e3]; rfl
      by_cases e4 : i = 9
      · rw [if_neg e0, if_neg e1, if_neg hi, if_neg e3, if_pos e4, if_neg e0, if_neg e1, if_neg hi, if_neg e3, if_pos e4]; rfl
      by_cases e5 : i = 10
      · rw [if_neg e0, if_neg e1, if_neg hi, if_neg e3, if_neg e4, if_pos e5, if_neg e0, if_neg e1, if_neg hi, if_neg e3, if_neg e4, if_pos e5]; rfl
      by_cases e6 : i = 11
      · rw [if_neg e0, if_neg e1, if_neg hi, if_neg e3, if_neg e4, if_neg e5, if_pos e6, if_neg e0, if_neg e1, if_neg hi, if_neg e3, if_neg e4, if_neg e5, if_pos e6]; rfl
      by_cases e7 : i = 12
      · rw [if_neg e0, if_neg e1, if_neg hi, if_neg e3, if_neg e4, if_neg e5, if_neg e6, if_pos e7, if_neg e0, if_neg e1, if_neg hi, if_neg e3, if_neg e4, if_neg e5, if_neg e6, if_pos e7]; rfl
      by_cases e8 : i = 13
      · rw [if_neg e0, if_neg e1, if_neg hi, if_neg e3, if_neg e4, if_neg e5, if_neg e6, if_neg e7, if_pos e8, if_neg e0, if_neg e1, if_neg hi, if_neg e3, if_neg e4, if_neg e5, if_neg e6, if_neg e7, if_pos e8]; rfl
      rw [if_neg e0, if_neg e1, if_neg hi, if_neg e3, if_neg e4, if_neg e5, if_neg e6, if_neg e7, if_neg e8, if_neg e0, if_neg e1, if_neg hi, if_neg e3, if_neg e4, if_neg e5, if_neg e6, if_neg e7, if_neg e8]
  · rw [az_w_ne h0]
    by_cases h : k < o ∨ o + 6 ≤ k
    · rw [zput_ne h, zput_ne h]
    · have hk : k = o + 1 ∨ k = o + 2 ∨ k = o + 3 ∨ k = o + 4 ∨ k = o + 5 := by omega
      rcases hk with rfl | rfl | rfl | rfl | rfl
      · rw [zput_at.1, zput_at.1]; rfl
      · rw [zput_at.2.1, zput_at.2.1]; rfl
      · rw [zput_at.2.2.1, zput_at.2.2.1]; rfl
      · rw [zput_at.2.2.2.1, zput_at.2.2.2.1]; rfl
      · rw [zput_at.2.2.2.2, zput_at.2.2.2.2]; rfl
theorem zr_8 (s : Nat → Nat → Int32) (o : Nat) (c : CT) : zput s o c o 8 = cDay c := by rw [zput_o]; rfl
theorem zw_8 (s : Nat → Nat → Int32) (o : Nat) (c : CT) (x : Int32) : az_w (zput s o c) o 8 x = zput s o (sDay c x) := by
  funext k
  by_cases h0 : k = o
  · subst h0
    rw [az_w_same, zput_o, zput_o]
    funext i
    by_cases hi : i = 8
    · subst hi; rw [az_up_self]; rfl
    · rw [az_up_ne hi]
      unfold zrow
      by_cases e0 : i = 5
      · rw [if_pos e0, if_pos e0]; rfl
      by_cases e1 : i = 6
      · rw [if_neg e0, if_pos e1, if_neg e0, if_pos e1]; rfl
      by_cases e2 : i = 7
      · rw [if_neg e0, if_neg e1, if_pos e2, if_neg e0, if_neg e1, if_pos e2]; rfl
      by_cases e4 : i = 9
      · rw [if_neg e0, if_neg e1, if_neg e2, if_neg hi, if_pos e4, if_neg e0, if_neg e1, if_neg e2, if_neg hi, if_pos e4]; rfl
      by_cases e5 : i = 10
      · rw [if_neg e0, if_neg e1, if_neg e2, if_neg hi, if_neg e4, if_pos e5, if_neg e0, if_neg e1, if_neg e2, if_neg hi, if_neg e4, if_pos e5]; rfl
      by_cases e6 : i = 11
      · rw [if_neg e0, if_neg e1, if_neg e2, if_neg hi, if_neg e4, if_neg e5, if_pos e6, if_neg e0, if_neg e1, if_neg e2, if_neg hi, if_neg e4, if_neg e5, if_pos e6]; rfl
      by_cases e7 : i = 12
      · rw [if_neg e0, if_neg e1, if_neg e2, if_neg hi, if_neg e4, if_neg e5, if_neg e6, if_pos e7, if_neg e0, if_neg e1, if_neg e2, if_neg hi, if_neg e4, if_neg e5, if_neg e6, if_pos e7]; rfl
      by_cases e8 : i = 13
      · rw [if_neg e0, if_neg e1, if_neg e2, if_neg hi, if_neg e4, if_neg e5, if_neg e6, if_neg e7, if_pos e8, if_neg e0, if_neg e1, if_neg e2, if_neg hi, if_neg e4, if_neg e5, if_neg e6, if_neg e7, if_pos e8]; rfl
      rw [if_neg e0, if_neg e1, if_neg e2, if_neg hi, if_neg e4, if_neg e5, if_neg e6, if_neg e7, if_neg e8, if_neg e0, if_neg e1, if_neg e2, if_neg hi, if_neg e4, if_neg e5, if_neg e6, if_neg e7, if_neg e8]
  · rw [az_w_ne h0]
    by_cases h : k < o ∨ o + 6 ≤ k
    · rw [zput_ne h, zput_ne h]
    · have hk : k = o + 1 ∨ k = o + 2 ∨ k = o + 3 ∨ k = o + 4 ∨ k = o + 5 := by omega
      rcases hk with rfl | rfl | rfl | rfl | rfl
      · rw [zput_at.1, zput_at.1]; rfl
      · rw [zput_at.2.1, zput_at.2.1]; rfl
      · rw [zput_at.2.2.1, zput_at.2.2.1]; rfl
      · rw [zput_at.2.2.2.1, zput_at.2.2.2.1]; rfl
      · rw [zput_at.2.2.2.2, zput_at.2.2.2.2]; rfl
theorem zr_9 (s : Nat → Nat → Int32) (o : Nat) (c : CT) : zput s o c o 9 = cWin c := by rw [zput_o]; rfl
theorem zw_9 (s : Nat → Nat → Int32) (o : Nat) (c : CT) (x : Int32) : az_w (zput s o c) o 9 x = zput s o (sWin c x) := by
  funext k
  by_cases h0 : k = o
  · subst h0
    rw [az_w_same, zput_o, zput_o]
    funext i
    by_cases hi : i = 9
    · subst hi; rw [az_up_self]; rfl
    · rw [az_up_ne hi]
      unfold zrow
      by_cases e0 : i = 5
      · rw [if_pos e0, if_pos e0]; rfl
      by_cases e1 : i = 6
      · rw [if_neg e0, if_pos e1, if_neg e0, if_pos e1]; rfl
      by_cases e2 : i = 7
      · rw [if_neg e0, if_neg e1, if_pos e2, if_neg e0, if_neg e1, if_pos e2]; rfl
      by_cases e3 : i = 8
      · rw [if_neg e0, if_neg e1, if_neg e2, if_pos e3, if_neg e0, if_neg e1, if_neg e2, if_pos e3]; rfl
      by_cases e5 : i = 10
      · rw [if_neg e0, if_neg e1, if_neg e2, if_neg e3, if_neg hi, if_pos e5, if_neg e0, if_neg e1, if_neg e2, if_neg e3, if_neg hi, if_pos e5]; rfl
      by_cases e6 : i = 11
      · rw [if_neg e0, if_neg e1, if_neg e2, if_neg e3, if_neg hi, if_neg e5, if_pos e6, if_neg e0, if_neg e1, if_neg e2, if_neg e3, if_neg hi, if_neg e5, if_pos e6]; rfl
      by_cases e7 : i = 12
      · rw [if_neg e0, if_neg e1, if_neg e2, if_neg e3, if_neg hi, if_neg e5, if_neg e6, if_pos e7, if_neg e0, if_neg e1, if_neg e2, if_neg e3, if_neg hi, if_neg e5, if_neg e6, if_pos e7]; rfl
      by_cases e8 : i = 13
      · rw [if_neg e0, if_neg e1, if_neg e2, if_neg e3, if_neg hi, if_neg e5, if_neg e6, if_neg e7, if_pos e8, if_neg e0, if_neg e1, if_neg e2, if_neg e3, if_neg hi, if_neg e5, if_neg e6, if_neg e7, if_pos e8]; rfl
      rw [if_neg e0, if_neg e1, if_neg e2, if_neg e3, if_neg hi, if_neg e5, if_neg e6, if_neg e7, if_neg e8, if_neg e0, if_neg e1, if_neg e2, if_neg e3, if_neg hi, if_neg e5, if_neg e6, if_neg e7, if_neg e8]
  · rw [az_w_ne h0]
    by_cases h : k < o ∨ o + 6 ≤ k
    · rw [zput_ne h, zput_ne h]
    · have hk : k = o + 1 ∨ k = o + 2 ∨ k = o + 3 ∨ k = o + 4 ∨ k = o + 5 := by omega
      rcases hk with rfl | rfl | rfl | rfl | rfl
      · rw [zput_at.1, zput_at.1]; rfl
      · rw [zput_at.2.1, zput_at.2.1]; rfl
      · rw [zput_at.2.2.1, zput_at.2.2.1]; rfl
      · rw [zput_at.2.2.2.1, zput_at.2.2.2.1]; rfl
      · rw [zput_at.2.2.2.2, zput_at.2.2.2.2]; rfl
theorem zr_10 (s : Nat → Nat → Int32) (o : Nat) (c : CT) : zput s o c o 10 = cCoal c := by rw [zput_o]; rfl
theorem zw_10 (s : Nat → Nat → Int32) (o : Nat) (c : CT) (x : Int32) : az_w (zput s o c) o 10 x = zput s o (sCoal c x) := by
  funext k
  by_cases h0 : k = o
  · subst h0
    rw [az_w_same, zput_o, zput_o]
    funext i
    by_cases hi : i = 10
    · subst hi; rw [az_up_self]; rfl
    · rw [az_up_ne hi]
      unfold zrow
      by_cases e0 : i = 5
      · rw [if_pos e0, if_pos e0]; rfl
      by_cases e1 : i = 6
      · rw [if_neg e0, if_pos e1, if_neg e0, if_pos e1]; rfl
      by_cases e2 : i = 7
      · rw [if_neg e0, if_neg e1, if_pos e2, if_neg e0, if_neg e1, if_pos e2]; rfl
      by_cases e3 : i = 8
      · rw [if_neg e0, if_neg e1, if_neg e2, if_pos e3, if_neg e0, if_neg e1, if_neg e2, if_pos e3]; rfl
      by_cases e4 : i = 9
      · rw [if_neg e0, if_neg e1, if_neg e2, if_neg e3, if_pos e4, if_neg e0, if_neg e1, if_neg e2, if_neg e3, if_pos e4]; rfl
      by_cases e6 : i = 11
      · rw [if_neg e0, if_neg e1, if_neg e2, if_neg e3, if_neg e4, if_neg hi, if_pos e6, if_neg e0, if_neg e1, if_neg e2, if_neg e3, if_neg e4, if_neg hi, if_pos e6]; rfl
      by_cases e7 : i = 12
      · rw [if_neg e0, if_neg e1, if_neg e2, if_neg e3, if_neg e4, if_neg hi, if_neg e6, if_pos e7, if_neg e0, if_neg e1, if_neg e2, if_neg e3, if_neg e4, if_neg hi, if_neg e6, if_pos e7]; rfl
      by_cases e8 : i = 13
      · rw [if_neg e0, if_neg e1, if_neg e2, if_neg e3, if_neg e4, if_neg hi, if_neg e6, if_neg e7, if_pos e8, if_neg e0, if_neg e1, if_neg e2, if_neg e3, if_neg e4, if_neg hi, if_neg e6, if_neg e7, if_pos e8]; rfl
      rw [if_neg e0, if_neg e1, if_neg e2, if_neg e3, if_neg e4, if_neg hi, if_neg e6, if_neg e7, if_neg e8, if_neg e0, if_neg e1, if_neg e2, if_neg e3, if_neg e4, if_neg hi, if_neg e6, if_neg e7, if_neg e8]
  · rw [az_w_ne h0]
    by_cases h : k < o ∨ o + 6 ≤ k
    · rw [zput_ne h, zput_ne h]
    · have hk : k = o + 1 ∨ k = o + 2 ∨ k = o + 3 ∨ k = o + 4 ∨ k = o + 5 := by omega
      rcases hk with rfl | rfl | rfl | rfl | rfl
      · rw [zput_at.1, zput_at.1]; rfl
      · rw [zput_at.2.1, zput_at.2.1]; rfl
      · rw [zput_at.2.2.1, zput_at.2.2.1]; rfl
      · rw [zput_at.2.2.2.1, zput_at.2.2.2.1]; rfl
      · rw [zput_at.2.2.2.2, zput_at.2.2.2.2]; rfl
theorem zr_11 (s : Nat → Nat → Int32) (o : Nat) (c : CT) : zput s o c o 11 = cSeed c := by rw [zput_o]; rfl
theorem zw_11 (s : Nat → Nat → Int32) (o : Nat) (c : CT) (x : Int32) : az_w (zput s o c) o 11 x = zput s o (sSeed c x) := by
  funext k
  by_cases h0 : k = o
  · subst h0
    rw [az_w_same, zput_o, zput_o]
    funext i
    by_cases hi : i = 11
    · subst hi; rw [az_up_self]; rfl
    · rw [az_up_ne hi]
      unfold zrow
      by_cases e0 : i = 5
      · rw [if_pos e0, if_pos e0]; rfl
      by_cases e1 : i = 6
      · rw [if_neg e0, if_pos e1, if_neg e0, if_pos e1]; rfl
      by_cases e2 : i = 7
      · rw [if_neg e0, if_neg e1, if_pos e2, if_neg e0, if_neg e1, if_pos e2]; rfl
      by_cases e3 : i = 8
      · rw [if_neg e0, if_neg e1, if_neg e2, if_pos e3, if_neg e0, if_neg e1, if_neg e2, if_pos e3]; rfl
      by_cases e4 : i = 9
      · rw [if_neg e0, if_neg e1, if_neg e2, if_neg e3, if_pos e4, if_neg e0, if_neg e1, if_neg e2, if_neg e3, if_pos e4]; rfl
      by_cases e5 : i = 10
      · rw [if_neg e0, if_neg e1, if_neg e2, if_neg e3, if_neg e4, if_pos e5, if_neg e0, if_neg e1, if_neg e2, if_neg e3, if_neg e4, if_pos e5]; rfl
      by_cases e7 : i = 12
      · rw [if_neg e0, if_neg e1, if_neg e2, if_neg e3, if_neg e4, if_neg e5, if_neg hi, if_pos e7, if_neg e0, if_neg e1, if_neg e2, if_neg e3, if_neg e4, if_neg e5, if_neg hi, if_pos e7]; rfl
      by_cases e8 : i = 13
      · rw [if_neg e0, if_neg e1, if_neg e2, if_neg e3, if_neg e4, if_neg e5, if_neg hi, if_neg e7, if_pos e8, if_neg e0, if_neg e1, if_neg e2, if_neg e3, if_neg e4, if_neg e5, if_neg hi, if_neg e7, if_pos e8]; rfl
      rw [if_neg e0, if_neg e1, if_neg e2, if_neg e3, if_neg e4, if_neg e5, if_neg hi, if_neg e7, if_neg e8, if_neg e0, if_neg e1, if_neg e2, if_neg e3, if_neg e4, if_neg e5, if_neg hi, if_neg e7, if_neg e8]
  · rw [az_w_ne h0]
    by_cases h : k < o ∨ o + 6 ≤ k
    · rw [zput_ne h, zput_ne h]
    · have hk : k = o + 1 ∨ k = o + 2 ∨ k = o + 3 ∨ k = o + 4 ∨ k = o + 5 := by omega
      rcases hk with rfl | rfl | rfl | rfl | rfl
      · rw [zput_at.1, zput_at.1]; rfl
      · rw [zput_at.2.1, zput_at.2.1]; rfl
      · rw [zput_at.2.2.1, zput_at.2.2.1]; rfl
      · rw [zput_at.2.2.2.1, zput_at.2.2.2.1]; rfl
      · rw [zput_at.2.2.2.2, zput_at.2.2.2.2]; rfl
theorem zr_12 (s : Nat → Nat → Int32) (o : Nat) (c : CT) : zput s o c o 12 = cLov c := by rw [zput_o]; rfl
theorem zw_12 (s : Nat → Nat → Int32) (o : Nat) (c : CT) (x : Int32) : az_w (zput s o c) o 12 x = zput s o (sLov c x) := by
  funext k
  by_cases h0 : k = o
  · subst h0
    rw [az_w_same, zput_o, zput_o]
    funext i
    by_cases hi : i = 12
    · subst hi; rw [az_up_self]; rfl
    · rw [az_up_ne hi]
      unfold zrow
      by_cases e0 : i = 5
      · rw [if_pos e0, if_pos e0]; rfl
      by_cases e1 : i = 6
      · rw [if_neg e0, if_pos e1, if_neg e0, if_pos e1]; rfl
      by_cases e2 : i = 7
      · rw [if_neg e0, if_neg e1, if_pos e2, if_neg e0, if_neg e1, if_pos e2]; rfl
      by_cases e3 : i = 8
      · rw [if_neg e0, if_neg e1, if_neg e2, if_pos e3, if_neg e0, if_neg e1, if_neg e2, if_pos e3]; rfl
      by_cases e4 : i = 9
      · rw [if_neg e0, if_neg e1, if_neg e2, if_neg e3, if_pos e4, if_neg e0, if_neg e1, if_neg e2, if_neg e3, if_pos e4]; rfl
      by_cases e5 : i = 10
      · rw [if_neg e0, if_neg e1, if_neg e2, if_neg e3, if_neg e4, if_pos e5, if_neg e0, if_neg e1, if_neg e2, if_neg e3, if_neg e4, if_pos e5]; rfl
      by_cases e6 : i = 11
      · rw [if_neg e0, if_neg e1, if_neg e2, if_neg e3, if_neg e4, if_neg e5, if_pos e6, if_neg e0, if_neg e1, if_neg e2, if_neg e3, if_neg e4, if_neg e5, if_pos e6]; rfl
      by_cases e8 : i = 13
      · rw [if_neg e0, if_neg e1, if_neg e2, if_neg e3, if_neg e4, if_neg e5, if_neg e6, if_neg hi, if_pos e8, if_neg e0, if_neg e1, if_neg e2, if_neg e3, if_neg e4, if_neg e5, if_neg e6, if_neg hi, if_pos e8]; rfl
      rw [if_neg e0, if_neg e1, if_neg e2, if_neg e3, if_neg e4, if_neg e5, if_neg e6, if_neg hi, if_neg e8, if_neg e0, if_neg e1, if_neg e2, if_neg e3, if_neg e4, if_neg e5, if_neg e6, if_neg hi, if_neg e8]
  · rw [az_w_ne h0]
    by_cases h : k < o ∨ o + 6 ≤ k
    · rw [zput_ne h, zput_ne h]
    · have hk : k = o + 1 ∨ k = o + 2 ∨ k = o + 3 ∨ k = o + 4 ∨ k = o + 5 := by omega
      rcases hk with rfl | rfl | rfl | rfl | rfl
      · rw [zput_at.1, zput_at.1]; rfl
      · rw [zput_at.2.1, zput_at.2.1]; rfl
      · rw [zput_at.2.2.1, zput_at.2.2.1]; rfl
      · rw [zput_at.2.2.2.1, zput_at.2.2.2.1]; rfl
      · rw [zput_at.2.2.2.2, zput_at.2.2.2.2]; rfl
theorem zr_13 (s : Nat → Nat → Int32) (o : Nat) (c : CT) : zput s o c o 13 = cAway c := by rw [zput_o]; rfl
theorem zw_13 (s : Nat → Nat → Int32) (o : Nat) (c : CT) (x : Int32) : az_w (zput s o c) o 13 x = zput s o (sAway c x) := by
  funext k
  by_cases h0 : k = o
  · subst h0
    rw [az_w_same, zput_o, zput_o]
    funext i
    by_cases hi : i = 13
    · subst hi; rw [az_up_self]; rfl
    · rw [az_up_ne hi]
      unfold zrow
      by_cases e0 : i = 5
      · rw [if_pos e0, if_pos e0]; rfl
      by_cases e1 : i = 6
      · rw [if_neg e0, if_pos e1, if_neg e0, if_pos e1]; rfl
      by_cases e2 : i = 7
      · rw [if_neg e0, if_neg e1, if_pos e2, if_neg e0, if_neg e1, if_pos e2]; rfl
      by_cases e3 : i = 8
      · rw [if_neg e0, if_neg e1, if_neg e2, if_pos e3, if_neg e0, if_neg e1, if_neg e2, if_pos e3]; rfl
      by_cases e4 : i = 9
      · rw [if_neg e0, if_neg e1, if_neg e2, if_neg e3, if_pos e4, if_neg e0, if_neg e1, if_neg e2, if_neg e3, if_pos e4]; rfl
      by_cases e5 : i = 10
      · rw [if_neg e0, if_neg e1, if_neg e2, if_neg e3, if_neg e4, if_pos e5, if_neg e0, if_neg e1, if_neg e2, if_neg e3, if_neg e4, if_pos e5]; rfl
      by_cases e6 : i = 11
      · rw [if_neg e0, if_neg e1, if_neg e2, if_neg e3, if_neg e4, if_neg e5, if_pos e6, if_neg e0, if_neg e1, if_neg e2, if_neg e3, if_neg e4, if_neg e5, if_pos e6]; rfl
      by_cases e7 : i = 12
      · rw [if_neg e0, if_neg e1, if_neg e2, if_neg e3, if_neg e4, if_neg e5, if_neg e6, if_pos e7, if_neg e0, if_neg e1, if_neg e2, if_neg e3, if_neg e4, if_neg e5, if_neg e6, if_pos e7]; rfl
      rw [if_neg e0, if_neg e1, if_neg e2, if_neg e3, if_neg e4, if_neg e5, if_neg e6, if_neg e7, if_neg hi, if_neg e0, if_neg e1, if_neg e2, if_neg e3, if_neg e4, if_neg e5, if_neg e6, if_neg e7, if_neg hi]
  · rw [az_w_ne h0]
    by_cases h : k < o ∨ o + 6 ≤ k
    · rw [zput_ne h, zput_ne h]
    · have hk : k = o + 1 ∨ k = o + 2 ∨ k = o + 3 ∨ k = o + 4 ∨ k = o + 5 := by omega
      rcases hk with rfl | rfl | rfl | rfl | rfl
      · rw [zput_at.1, zput_at.1]; rfl
      · rw [zput_at.2.1, zput_at.2.1]; rfl
      · rw [zput_at.2.2.1, zput_at.2.2.1]; rfl
      · rw [zput_at.2.2.2.1, zput_at.2.2.2.1]; rfl
      · rw [zput_at.2.2.2.2, zput_at.2.2.2.2]; rfl
theorem za_1 (s : Nat → Nat → Int32) (o : Nat) (c : CT) : zput s o c (o + 1) = cKd c := zput_at.1
theorem za_2 (s : Nat → Nat → Int32) (o : Nat) (c : CT) : zput s o c (o + 2) = cAa c := zput_at.2.1
theorem za_3 (s : Nat → Nat → Int32) (o : Nat) (c : CT) : zput s o c (o + 3) = cPr c := zput_at.2.2.1
theorem za_4 (s : Nat → Nat → Int32) (o : Nat) (c : CT) : zput s o c (o + 4) = cBr c := zput_at.2.2.2.1
theorem za_5 (s : Nat → Nat → Int32) (o : Nat) (c : CT) : zput s o c (o + 5) = cFe c := zput_at.2.2.2.2
theorem ze_1 (s : Nat → Nat → Int32) (o : Nat) (c : CT) (i : Nat) : zput s o c (o + 1) i = cKd c i := congrFun (za_1 s o c) i
theorem zu_1 (s : Nat → Nat → Int32) (o : Nat) (c : CT) (f : Nat → Int32) : va_up (zput s o c) (o + 1) f = zput s o (sKd c f) := by
  funext k
  by_cases h0 : k = o + 1
  · subst h0; rw [az_up_self, za_1]; rfl
  · rw [az_up_ne h0]
    by_cases h : k < o ∨ o + 6 ≤ k
    · rw [zput_ne h, zput_ne h]
    · have hk : k = o ∨ k = o + 1 ∨ k = o + 2 ∨ k = o + 3 ∨ k = o + 4 ∨ k = o + 5 := by omega
      rcases hk with rfl | rfl | rfl | rfl | rfl | rfl
      · rw [zput_o, zput_o]; rfl
      · exact absurd rfl h0
      · rw [za_2, za_2]; rfl
      · rw [za_3, za_3]; rfl
      · rw [za_4, za_4]; rfl
      · rw [za_5, za_5]; rfl
theorem zx_1 (s : Nat → Nat → Int32) (o : Nat) (c : CT) (i : Nat) (x : Int32) : az_w (zput s o c) (o + 1) i x = zput s o (sKd c (va_up (cKd c) i x)) := by unfold az_w; rw [zu_1, za_1]
theorem ze_2 (s : Nat → Nat → Int32) (o : Nat) (c : CT) (i : Nat) : zput s o c (o + 2) i = cAa c i := congrFun (za_2 s o c) i
theorem zu_2 (s : Nat → Nat → Int32) (o : Nat) (c : CT) (f : Nat → Int32) : va_up (zput s o c) (o + 2) f = zput s o (sAa c f) := by
  funext k
  by_cases h0 : k = o + 2
  · subst h0; rw [az_up_self, za_2]; rfl
  · rw [az_up_ne h0]
    by_cases h : k < o ∨ o + 6 ≤ k
    · rw [zput_ne h, zput_ne h]
    · have hk : k = o ∨ k = o + 1 ∨ k = o + 2 ∨ k = o + 3 ∨ k = o + 4 ∨ k = o + 5 := by omega
      rcases hk with rfl | rfl | rfl | rfl | rfl | rfl
      · rw [zput_o, zput_o]; rfl
      · rw [za_1, za_1]; rfl
      · exact absurd rfl h0
      · rw [za_3, za_3]; rfl
      · rw [za_4, za_4]; rfl
      · rw [za_5, za_5]; rfl
theorem zx_2 (s : Nat → Nat → Int32) (o : Nat) (c : CT) (i : Nat) (x : Int32) : az_w (zput s o c) (o + 2) i x = zput s o (sAa c (va_up (cAa c) i x)) := by unfold az_w; rw [zu_2, za_2]
theorem ze_3 (s : Nat → Nat → Int32) (o : Nat) (c : CT) (i : Nat) : zput s o c (o + 3) i = cPr c i := congrFun (za_3 s o c) i
theorem zu_3 (s : Nat → Nat → Int32) (o : Nat) (c : CT) (f : Nat → Int32) : va_up (zput s o c) (o + 3) f = zput s o (sPr c f) := by
  funext k
  by_cases h0 : k = o + 3
  · subst h0; rw [az_up_self, za_3]; rfl
  · rw [az_up_ne h0]
    by_cases h : k < o ∨ o + 6 ≤ k
    · rw [zput_ne h, zput_ne h]
    · have hk : k = o ∨ k = o + 1 ∨ k = o + 2 ∨ k = o + 3 ∨ k = o + 4 ∨ k = o + 5 := by omega
      rcases hk with rfl | rfl | rfl | rfl | rfl | rfl
      · rw [zput_o, zput_o]; rfl
      · rw [za_1, za_1]; rfl
      · rw [za_2, za_2]; rfl
      · exact absurd rfl h0
      · rw [za_4, za_4]; rfl
      · rw [za_5, za_5]; rfl
theorem zx_3 (s : Nat → Nat → Int32) (o : Nat) (c : CT) (i : Nat) (x : Int32) : az_w (zput s o c) (o + 3) i x = zput s o (sPr c (va_up (cPr c) i x)) := by unfold az_w; rw [zu_3, za_3]
theorem ze_4 (s : Nat → Nat → Int32) (o : Nat) (c : CT) (i : Nat) : zput s o c (o + 4) i = cBr c i := congrFun (za_4 s o c) i
theorem zu_4 (s : Nat → Nat → Int32) (o : Nat) (c : CT) (f : Nat → Int32) : va_up (zput s o c) (o + 4) f = zput s o (sBr c f) := by
  funext k
  by_cases h0 : k = o + 4
  · subst h0; rw [az_up_self, za_4]; rfl
  · rw [az_up_ne h0]
    by_cases h : k < o ∨ o + 6 ≤ k
    · rw [zput_ne h, zput_ne h]
    · have hk : k = o ∨ k = o + 1 ∨ k = o + 2 ∨ k = o + 3 ∨ k = o + 4 ∨ k = o + 5 := by omega
      rcases hk with rfl | rfl | rfl | rfl | rfl | rfl
      · rw [zput_o, zput_o]; rfl
      · rw [za_1, za_1]; rfl
      · rw [za_2, za_2]; rfl
      · rw [za_3, za_3]; rfl
      · exact absurd rfl h0
      · rw [za_5, za_5]; rfl
theorem zx_4 (s : Nat → Nat → Int32) (o : Nat) (c : CT) (i : Nat) (x : Int32) : az_w (zput s o c) (o + 4) i x = zput s o (sBr c (va_up (cBr c) i x)) := by unfold az_w; rw [zu_4, za_4]
theorem ze_5 (s : Nat → Nat → Int32) (o : Nat) (c : CT) (i : Nat) : zput s o c (o + 5) i = cFe c i := congrFun (za_5 s o c) i
theorem zu_5 (s : Nat → Nat → Int32) (o : Nat) (c : CT) (f : Nat → Int32) : va_up (zput s o c) (o + 5) f = zput s o (sFe c f) := by
  funext k
  by_cases h0 : k = o + 5
  · subst h0; rw [az_up_self, za_5]; rfl
  · rw [az_up_ne h0]
    by_cases h : k < o ∨ o + 6 ≤ k
    · rw [zput_ne h, zput_ne h]
    · have hk : k = o ∨ k = o + 1 ∨ k = o + 2 ∨ k = o + 3 ∨ k = o + 4 ∨ k = o + 5 := by omega
      rcases hk with rfl | rfl | rfl | rfl | rfl | rfl
      · rw [zput_o, zput_o]; rfl
      · rw [za_1, za_1]; rfl
      · rw [za_2, za_2]; rfl
      · rw [za_3, za_3]; rfl
      · rw [za_4, za_4]; rfl
      · exact absurd rfl h0
theorem zx_5 (s : Nat → Nat → Int32) (o : Nat) (c : CT) (i : Nat) (x : Int32) : az_w (zput s o c) (o + 5) i x = zput s o (sFe c (va_up (cFe c) i x)) := by unfold az_w; rw [zu_5, za_5]
theorem cOk_of {c e : CT} (h : cOk c) (he : cPp e = cPp c) : cOk e := by
  unfold cOk cN at *
  rw [he]
  exact h
