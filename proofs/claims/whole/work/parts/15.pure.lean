/-! rows that name what is read -/
section AzV
variable {l : Launch} {G : az_Gh} {M : az_Md} {d : Nat} {F : az_Fn} {bc bs pc : Nat} {lo : List (Option Value)} {st : List Value} {sh : List az_Sh} {sg : Nat → Nat → Int32} {la : Nat → Nat → Int64}
theorem B_getV {k ci z j idx : Nat} {fs : List (Option (Option Nat))} (v : Int32) (hd : decode M.2.1 pc = .ok (.getfield idx, 3)) (hf : az_fl M.1.cls idx ci j) (hs : sh[k]? = some (ci, z, fs)) (hj : fs[j]? = some none) (hv : sg k j = v) (kk : AW l G M d F bc bs (pc + 3) lo (.int v :: st) (sh, sg, la)) : AW l G M d F bc bs pc lo (.ref k :: st) (sh, sg, la) := by subst hv; exact A_getI hd hf hs hj kk
theorem B_ialdV {k n i : Nat} {x : Int32} {fs : List (Option (Option Nat))} (v : Int32) (hd : decode M.2.1 pc = .ok (.iaload, 1)) (hs : sh[k]? = some (100, n, fs)) (hn : n < 2 ^ 31) (hxi : x = nI i) (hi : i < n) (hv : sg k i = v) (kk : AW l G M d F bc bs (pc + 1) lo (.int v :: st) (sh, sg, la)) : AW l G M d F bc bs pc lo (.int x :: .ref k :: st) (sh, sg, la) := by subst hv; exact A_iald hd hs hi hn hxi kk
theorem B_laldV {k n i : Nat} {x : Int32} {fs : List (Option (Option Nat))} (v : Int64) (hd : decode M.2.1 pc = .ok (.laload, 1)) (hs : sh[k]? = some (101, n, fs)) (hn : n < 2 ^ 31) (hxi : x = nI i) (hi : i < n) (hv : la k i = v) (kk : AW l G M d F bc bs (pc + 1) lo (.long v :: st) (sh, sg, la)) : AW l G M d F bc bs pc lo (.int x :: .ref k :: st) (sh, sg, la) := by subst hv; exact A_lald hd hs hi hn hxi kk
/-- the store is another text for the same -/
theorem B_sg {sg2 : Nat → Nat → Int32} (h : sg = sg2) (kk : AW l G M d F bc bs pc lo st (sh, sg2, la)) : AW l G M d F bc bs pc lo st (sh, sg, la) := by subst h; exact kk
theorem B_la {la2 : Nat → Nat → Int64} (h : la = la2) (kk : AW l G M d F bc bs pc lo st (sh, sg, la2)) : AW l G M d F bc bs pc lo st (sh, sg, la) := by subst h; exact kk
theorem B_top {x y : Int32} {S : az_St} (h : x = y) (kk : AW l G M d F bc bs pc lo (.int y :: st) S) : AW l G M d F bc bs pc lo (.int x :: st) S := by subst h; exact kk
end AzV
/-! switches -/
theorem az_toI {t : Int32} {k : Int} {v : Int32} (h : t.toInt = k) (hv : v.toInt = k) : t = v := Int32.toInt_inj.mp (h.trans hv.symm)
theorem az_sw15 (t : Int32) : t = 1 ∨ t = 2 ∨ t = 3 ∨ t = 4 ∨ t = 5 ∨ (t.toInt < 1 ∨ 5 < t.toInt) := by
  by_cases h1 : t.toInt = 1
  · exact Or.inl (az_toI h1 (by decide))
  by_cases h2 : t.toInt = 2
  · exact Or.inr (Or.inl (az_toI h2 (by decide)))
  by_cases h3 : t.toInt = 3
  · exact Or.inr (Or.inr (Or.inl (az_toI h3 (by decide))))
  by_cases h4 : t.toInt = 4
  · exact Or.inr (Or.inr (Or.inr (Or.inl (az_toI h4 (by decide)))))
  by_cases h5 : t.toInt = 5
  · exact Or.inr (Or.inr (Or.inr (Or.inr (Or.inl (az_toI h5 (by decide))))))
  exact Or.inr (Or.inr (Or.inr (Or.inr (Or.inr (by omega)))))
/-! the country, as a value -/
abbrev CT : Type := Int32 × Int32 × Int32 × Int32 × Int32 × Int32 × Int32 × Int32 × Int32 × (Nat → Int32) × (Nat → Int32) × (Nat → Int32) × (Nat → Int32) × (Nat → Int32)
def cPp (c : CT) : Int32 := c.1
def cAir (c : CT) : Int32 := c.2.1
def cFall (c : CT) : Int32 := c.2.2.1
def cDay (c : CT) : Int32 := c.2.2.2.1
def cWin (c : CT) : Int32 := c.2.2.2.2.1
def cCoal (c : CT) : Int32 := c.2.2.2.2.2.1
def cSeed (c : CT) : Int32 := c.2.2.2.2.2.2.1
def cLov (c : CT) : Int32 := c.2.2.2.2.2.2.2.1
def cAway (c : CT) : Int32 := c.2.2.2.2.2.2.2.2.1
def cKd (c : CT) : Nat → Int32 := c.2.2.2.2.2.2.2.2.2.1
def cAa (c : CT) : Nat → Int32 := c.2.2.2.2.2.2.2.2.2.2.1
def cPr (c : CT) : Nat → Int32 := c.2.2.2.2.2.2.2.2.2.2.2.1
def cBr (c : CT) : Nat → Int32 := c.2.2.2.2.2.2.2.2.2.2.2.2.1
def cFe (c : CT) : Nat → Int32 := c.2.2.2.2.2.2.2.2.2.2.2.2.2
def cN (c : CT) : Nat := (cPp c).toNatClampNeg
/-- how many there are: a small number -/
def cOk (c : CT) : Prop := cPp c = nI (cN c) ∧ cN c ≤ 8
def cAF (c : CT) (air : Int32) (fe : Nat → Int32) : CT := (cPp c, air, cFall c, cDay c, cWin c, cCoal c, cSeed c, cLov c, cAway c, cKd c, cAa c, cPr c, cBr c, fe)
def ct (s : Nat → Nat → Int32) (o : Nat) : CT := (s o 5, s o 6, s o 7, s o 8, s o 9, s o 10, s o 11, s o 12, s o 13, s (o + 1), s (o + 2), s (o + 3), s (o + 4), s (o + 5))
def zput (s : Nat → Nat → Int32) (o : Nat) (c : CT) : Nat → Nat → Int32 :=
  va_up (va_up (va_up (va_up (va_up (va_up s o (fun j => if j = 5 then cPp c else if j = 6 then cAir c else if j = 7 then cFall c else if j = 8 then cDay c else if j = 9 then cWin c else if j = 10 then cCoal c else if j = 11 then cSeed c else if j = 12 then cLov c else if j = 13 then cAway c else s o j)) (o + 1) (cKd c)) (o + 2) (cAa c)) (o + 3) (cPr c)) (o + 4) (cBr c)) (o + 5) (cFe c)
theorem ct_zput (s : Nat → Nat → Int32) (o : Nat) (c : CT) : ct (zput s o c) o = c := by
  simp [ct, zput, va_up, cPp, cAir, cFall, cDay, cWin, cCoal, cSeed, cLov, cAway, cKd, cAa, cPr, cBr, cFe]
theorem zput_ne {s : Nat → Nat → Int32} {o k : Nat} {c : CT} (h : k < o ∨ o + 6 ≤ k) : zput s o c k = s k := by
  unfold zput
  rw [az_up_ne (by omega), az_up_ne (by omega), az_up_ne (by omega), az_up_ne (by omega), az_up_ne (by omega), az_up_ne (by omega)]
def zrow (c : CT) (f : Nat → Int32) : Nat → Int32 := fun j => if j = 5 then cPp c else if j = 6 then cAir c else if j = 7 then cFall c else if j = 8 then cDay c else if j = 9 then cWin c else if j = 10 then cCoal c else if j = 11 then cSeed c else if j = 12 then cLov c else if j = 13 then cAway c else f j
theorem zput_o (s : Nat → Nat → Int32) (o : Nat) (c : CT) : zput s o c o = zrow c (s o) := by
  unfold zput
  rw [az_up_ne (by omega), az_up_ne (by omega), az_up_ne (by omega), az_up_ne (by omega), az_up_ne (by omega), az_up_self]
  rfl
theorem zrow_out {c : CT} {f : Nat → Int32} {j : Nat} (h : j < 5 ∨ 13 < j) : zrow c f j = f j := by
  unfold zrow
  rw [if_neg (by omega), if_neg (by omega), if_neg (by omega), if_neg (by omega), if_neg (by omega), if_neg (by omega), if_neg (by omega), if_neg (by omega), if_neg (by omega)]
theorem zrow_self (s : Nat → Nat → Int32) (o : Nat) : zrow (ct s o) (s o) = s o := by
  funext j
  unfold zrow
  by_cases e0 : j = 5
  · rw [if_pos e0, e0]; rfl
  by_cases e1 : j = 6
  · rw [if_neg e0, if_pos e1, e1]; rfl
  by_cases e2 : j = 7
  · rw [if_neg e0, if_neg e1, if_pos e2, e2]; rfl
  by_cases e3 : j = 8
  · rw [if_neg e0, if_neg e1, if_neg e2, if_pos e3, e3]; rfl
  by_cases e4 : j = 9
  · rw [if_neg e0, if_neg e1, if_neg e2, if_neg e3, if_pos e4, e4]; rfl
  by_cases e5 : j = 10
  · rw [if_neg e0, if_neg e1, if_neg e2, if_neg e3, if_neg e4, if_pos e5, e5]; rfl
  by_cases e6 : j = 11
  · rw [if_neg e0, if_neg e1, if_neg e2, if_neg e3, if_neg e4, if_neg e5, if_pos e6, e6]; rfl
  by_cases e7 : j = 12
  · rw [if_neg e0, if_neg e1, if_neg e2, if_neg e3, if_neg e4, if_neg e5, if_neg e6, if_pos e7, e7]; rfl
  by_cases e8 : j = 13
  · rw [if_neg e0, if_neg e1, if_neg e2, if_neg e3, if_neg e4, if_neg e5, if_neg e6, if_neg e7, if_pos e8, e8]; rfl
  rw [if_neg e0, if_neg e1, if_neg e2, if_neg e3, if_neg e4, if_neg e5, if_neg e6, if_neg e7, if_neg e8]
theorem zrow_zrow (c e : CT) (f : Nat → Int32) : zrow e (zrow c f) = zrow e f := by
  funext j
  by_cases h : j < 5 ∨ 13 < j
  · rw [zrow_out h, zrow_out h, zrow_out h]
  · unfold zrow
    by_cases e0 : j = 5
    · rw [if_pos e0, if_pos e0]
    by_cases e1 : j = 6
    · rw [if_neg e0, if_pos e1, if_neg e0, if_pos e1]
    by_cases e2 : j = 7
    · rw [if_neg e0, if_neg e1, if_pos e2, if_neg e0, if_neg e1, if_pos e2]
    by_cases e3 : j = 8
    · rw [if_neg e0, if_neg e1, if_neg e2, if_pos e3, if_neg e0, if_neg e1, if_neg e2, if_pos e3]
    by_cases e4 : j = 9
    · rw [if_neg e0, if_neg e1, if_neg e2, if_neg e3, if_pos e4, if_neg e0, if_neg e1, if_neg e2, if_neg e3, if_pos e4]
    by_cases e5 : j = 10
    · rw [if_neg e0, if_neg e1, if_neg e2, if_neg e3, if_neg e4, if_pos e5, if_neg e0, if_neg e1, if_neg e2, if_neg e3, if_neg e4, if_pos e5]
    by_cases e6 : j = 11
    · rw [if_neg e0, if_neg e1, if_neg e2, if_neg e3, if_neg e4, if_neg e5, if_pos e6, if_neg e0, if_neg e1, if_neg e2, if_neg e3, if_neg e4, if_neg e5, if_pos e6]
    by_cases e7 : j = 12
    · rw [if_neg e0, if_neg e1, if_neg e2, if_neg e3, if_neg e4, if_neg e5, if_neg e6, if_pos e7, if_neg e0, if_neg e1, if_neg e2, if_neg e3, if_neg e4, if_neg e5, if_neg e6, if_pos e7]
    by_cases e8 : j = 13
    · rw [if_neg e0, if_neg e1, if_neg e2, if_neg e3, if_neg e4, if_neg e5, if_neg e6, if_neg e7, if_pos e8, if_neg e0, if_neg e1, if_neg e2, if_neg e3, if_neg e4, if_neg e5, if_neg e6, if_neg e7, if_pos e8]
    omega
theorem zput_at {s : Nat → Nat → Int32} {o : Nat} {c : CT} : zput s o c (o + 1) = cKd c ∧ zput s o c (o + 2) = cAa c ∧ zput s o c (o + 3) = cPr c ∧ zput s o c (o + 4) = cBr c ∧ zput s o c (o + 5) = cFe c := by
  unfold zput
  refine ⟨?_, ?_, ?_, ?_, ?_⟩
  · rw [az_up_ne (by omega), az_up_ne (by omega), az_up_ne (by omega), az_up_ne (by omega), az_up_self]
  · rw [az_up_ne (by omega), az_up_ne (by omega), az_up_ne (by omega), az_up_self]
  · rw [az_up_ne (by omega), az_up_ne (by omega), az_up_self]
  · rw [az_up_ne (by omega), az_up_self]
  · rw [az_up_self]
theorem zput_self (s : Nat → Nat → Int32) (o : Nat) : zput s o (ct s o) = s := by
  funext k
  by_cases h0 : k = o
  · subst h0; rw [zput_o, zrow_self]
  by_cases h1 : k = o + 1
  · subst h1; rw [zput_at.1]; rfl
  by_cases h2 : k = o + 2
  · subst h2; rw [zput_at.2.1]; rfl
  by_cases h3 : k = o + 3
  · subst h3; rw [zput_at.2.2.1]; rfl
  by_cases h4 : k = o + 4
  · subst h4; rw [zput_at.2.2.2.1]; rfl
  by_cases h5 : k = o + 5
  · subst h5; rw [zput_at.2.2.2.2]; rfl
  exact zput_ne (by omega)
theorem zput_zput (s : Nat → Nat → Int32) (o : Nat) (c e : CT) : zput (zput s o c) o e = zput s o e := by
  funext k
  by_cases h0 : k = o
  · subst h0; rw [zput_o, zput_o, zput_o, zrow_zrow]
  by_cases h1 : k = o + 1
  · subst h1; rw [zput_at.1, zput_at.1]
  by_cases h2 : k = o + 2
  · subst h2; rw [zput_at.2.1, zput_at.2.1]
  by_cases h3 : k = o + 3
  · subst h3; rw [zput_at.2.2.1, zput_at.2.2.1]
  by_cases h4 : k = o + 4
  · subst h4; rw [zput_at.2.2.2.1, zput_at.2.2.2.1]
  by_cases h5 : k = o + 5
  · subst h5; rw [zput_at.2.2.2.2, zput_at.2.2.2.2]
  rw [zput_ne (by omega), zput_ne (by omega), zput_ne (by omega)]
/-- a number, 0 at least -/
def mx0 (x : Int32) : Int32 := if 0 < x then x else 0
def zcold (k a b f air : Int32) (lv : Bool) : Int32 :=
  if k = 1 then mx0 (mx0 (40 - air - f) - a) else if k = 2 then mx0 (40 - air - f) + a else if k = 3 then mx0 (mx0 (mx0 (40 - air - f) - a) - 2 * b) else if k = 4 then (if lv = true then mx0 (mx0 (40 - air - f) + a - 10) else mx0 (40 - air - f) + a) else if k = 5 then mx0 (40 - air - f) + 5 else mx0 (40 - air - f)
def zlim (k a p : Int32) : Int32 :=
  if k = 1 then 10 + 2 * p else if k = 2 then 5 + p else if k = 3 then 10 + 2 * p + a else if k = 4 then 35 else if k = 5 then 10 else 10 + p
def zcT (t : Int32) (c : CT) (p : Nat) : Int32 := zcold t (cAa c p) (cBr c p) (cFe c p) (cAir c) (decide ((if cKd c p = 4 then 1 else 0) < cLov c))
def zc (c : CT) (p : Nat) : Int32 := zcT (cKd c p) c p
def zl (c : CT) (pr : Int32) (p : Nat) : Int32 := zlim (cKd c p) (cAa c p) pr
def zsp (c : CT) (p : Nat) : Bool := decide (zl c (cPr c p) p < zc c p)
def oI (q : Option Nat) : Int32 := match q with
  | none => -1
  | some k => nI k
def zb (c : CT) : Nat → Option Nat
  | 0 => none
  | i + 1 => if nI i = cAway c then zb c i else match zb c i with
    | none => some i
    | some k => if zc c k < zc c i then some i else some k
def zbest (c : CT) : Option Nat := zb c (cN c)
def zspO (c : CT) (q : Option Nat) : Bool := match q with
  | none => false
  | some k => zsp c k
def zso (c : CT) : Bool := zspO c (zbest c)
def zcool (k : Int32) (c : CT) : CT := cAF c (mx0 (cAir c - k * cFall c)) (fun j => if j < cN c then mx0 (cFe c j - k) else cFe c j)
