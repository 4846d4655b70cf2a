/-! ranges; days -/
def iR (x : Int32) (m : Int) : Prop := 0 ≤ x.toInt ∧ x.toInt ≤ m
def cRng (c : CT) : Prop := cOk c ∧ iR (cAir c) 40 ∧ iR (cFall c) 5 ∧ ∀ p, p < cN c → iR (cAa c p) 9 ∧ iR (cBr c p) 9 ∧ iR (cFe c p) 40 ∧ iR (cPr c p) 20 ∧ iR (cKd c p) 5
theorem mx0_toInt (x : Int32) : (mx0 x).toInt = max 0 x.toInt := by
  unfold mx0
  have h0 : (0 : Int32).toInt = 0 := by decide
  split
  · rename_i h
    have := Int32.lt_iff_toInt_lt.mp h
    omega
  · rename_i h
    have : ¬ (0 : Int32).toInt < x.toInt := fun q => h (Int32.lt_iff_toInt_lt.mpr q)
    omega
theorem mx0_le {x : Int32} {m : Int} (h0 : 0 ≤ m) (h : x.toInt ≤ m) : iR (mx0 x) m := by
  unfold iR
  rw [mx0_toInt]
  omega
theorem c40 : (40 : Int32).toInt = 40 := by decide
theorem zplain {air f : Int32} (h1 : iR air 40) (h2 : iR f 40) : iR (mx0 (40 - air - f)) 40 := by
  unfold iR at h1 h2
  have e1 : (40 - air).toInt = 40 - air.toInt := by rw [fb_subI] <;> rw [c40] <;> omega
  have e2 : (40 - air - f).toInt = 40 - air.toInt - f.toInt := by rw [fb_subI] <;> rw [e1] <;> omega
  exact mx0_le (by omega) (by omega)
theorem iR_add {x y : Int32} {m k : Int} (hx : iR x m) (hy : iR y k) (h : m + k < 2147483648) : iR (x + y) (m + k) ∧ (x + y).toInt = x.toInt + y.toInt := by
  unfold iR at *
  have e : (x + y).toInt = x.toInt + y.toInt := fb_addI (by omega) (by omega)
  exact ⟨⟨by omega, by omega⟩, e⟩
theorem iR_0 {x : Int32} {m : Int} (h : iR x m) : 0 ≤ x := Int32.le_iff_toInt_le.mpr (by have := h.1; rw [show (0 : Int32).toInt = 0 by decide]; exact this)
theorem mx0_ge (x : Int32) : 0 ≤ mx0 x := Int32.le_iff_toInt_le.mpr (by rw [mx0_toInt, show (0 : Int32).toInt = 0 by decide]; omega)
theorem zcold_ge {k a b f air : Int32} {lv : Bool} (h1 : iR air 40) (ha : iR a 9) (hf : iR f 40) : 0 ≤ zcold k a b f air lv := by
  have hpl := zplain h1 hf
  have hs := iR_0 (iR_add hpl ha (by omega)).1
  have h5 := iR_0 (iR_add hpl (show iR 5 5 by unfold iR; decide) (by omega)).1
  have h0 := iR_0 hpl
  have g1 := mx0_ge (mx0 (40 - air - f) - a)
  have g3 := mx0_ge (mx0 (mx0 (40 - air - f) - a) - 2 * b)
  have g4 := mx0_ge (mx0 (40 - air - f) + a - 10)
  unfold zcold
  generalize mx0 (40 - air - f) = c at *
  by_cases e1 : k = 1
  · rw [if_pos e1]; exact g1
  rw [if_neg e1]
  by_cases e2 : k = 2
  · rw [if_pos e2]; exact hs
  rw [if_neg e2]
  by_cases e3 : k = 3
  · rw [if_pos e3]; exact g3
  rw [if_neg e3]
  by_cases e4 : k = 4
  · rw [if_pos e4]
    by_cases e6 : lv = true
    · rw [if_pos e6]; exact g4
    · rw [if_neg e6]; exact hs
  rw [if_neg e4]
  by_cases e5 : k = 5
  · rw [if_pos e5]; exact h5
  rw [if_neg e5]
  exact h0
theorem zc_ge {c : CT} (h : cRng c) {p : Nat} (hp : p < cN c) (t : Int32) : 0 ≤ zcT t c p := zcold_ge h.2.1 (h.2.2.2 p hp).1 (h.2.2.2 p hp).2.2.1
theorem cRng_pos {c : CT} (h : cRng c) : cPos c := fun p hp => zc_ge h hp _
theorem cN_cool (k : Int32) (c : CT) : cN (zcool k c) = cN c := rfl
theorem cOk_cool {k : Int32} {c : CT} (h : cOk c) : cOk (zcool k c) := h
theorem mx0_sub1 {x : Int32} {m : Int} (h : iR x m) (hm : m < 2147483648) : iR (mx0 (x - 1)) m := by
  have h1 : (1 : Int32).toInt = 1 := by decide
  unfold iR at h
  have e : (x - 1).toInt = x.toInt - 1 := by rw [fb_subI] <;> rw [h1] <;> omega
  exact mx0_le (by omega) (by omega)
theorem one_mul32 (x : Int32) : 1 * x = x := by simp
theorem cRng_cool {c : CT} (h : cRng c) : cRng (zcool 1 c) := by
  obtain ⟨h0, h1, h2, h3⟩ := h
  refine ⟨cOk_cool h0, ?_, h2, fun p hp => ?_⟩
  · show iR (mx0 (cAir c - 1 * cFall c)) 40
    rw [one_mul32]
    unfold iR at h1 h2
    have e : (cAir c - cFall c).toInt = (cAir c).toInt - (cFall c).toInt := fb_subI (by omega) (by omega)
    exact mx0_le (by omega) (by omega)
  · obtain ⟨ha, hb, hf, hq⟩ := h3 p hp
    refine ⟨ha, hb, ?_, hq⟩
    show iR (if p < cN c then mx0 (cFe c p - 1) else cFe c p) 40
    rw [if_pos (show p < cN c from hp)]
    exact mx0_sub1 hf (by omega)
def zdays : Nat → CT → CT
  | 0, c => c
  | k + 1, c => zcool 1 (zdays k c)
theorem zdays_N (k : Nat) (c : CT) : cN (zdays k c) = cN c := by
  induction k with
  | zero => rfl
  | succ k ih => exact ih
theorem zdays_Rng {c : CT} (h : cRng c) (k : Nat) : cRng (zdays k c) := by
  induction k with
  | zero => exact h
  | succ k ih => exact cRng_cool ih
theorem cool_step (c : CT) (a k : Int32) (i : Nat) : sFe (cAF c a (fun j => if j < i then mx0 (cFe c j - k) else cFe c j)) (va_up (fun j => if j < i then mx0 (cFe c j - k) else cFe c j) i (mx0 (cFe c i - k))) = cAF c a (fun j => if j < i + 1 then mx0 (cFe c j - k) else cFe c j) := by
  refine congrArg (cAF c a) (funext fun j => ?_)
  by_cases h : j = i
  · subst h; rw [az_up_self, if_pos (by omega)]
  · rw [az_up_ne h]
    by_cases h2 : j < i
    · rw [if_pos h2, if_pos (by omega)]
    · rw [if_neg h2, if_neg (by omega)]
/-- the first of n with p -/
def zfind (p : Nat → Bool) (n : Nat) : Option Nat := if fa_first p n < n then some (fa_first p n) else none
theorem fa_first_eq {p : Nat → Bool} {n i : Nat} (hi : i < n) (hp : p i = true) (hn : ∀ k, k < i → p k = false) : fa_first p n = i := by
  rcases Nat.lt_trichotomy (fa_first p n) i with h | h | h
  · have := fa_first_yes p n (by omega)
    rw [hn _ h] at this
    cases this
  · exact h
  · have := fa_first_no p n i h
    rw [hp] at this
    cases this
theorem fa_first_none {p : Nat → Bool} {n : Nat} (hn : ∀ k, k < n → p k = false) : fa_first p n = n := by
  have hle := fa_first_le p n
  rcases Nat.lt_or_ge (fa_first p n) n with h | h
  · have := fa_first_yes p n h
    rw [hn _ h] at this
    cases this
  · omega
theorem zfind_some {p : Nat → Bool} {n i : Nat} (hi : i < n) (hp : p i = true) (hn : ∀ k, k < i → p k = false) : zfind p n = some i := by
  unfold zfind
  rw [fa_first_eq hi hp hn, if_pos hi]
theorem zfind_none {p : Nat → Bool} {n : Nat} (hn : ∀ k, k < n → p k = false) : zfind p n = none := by
  unfold zfind
  rw [fa_first_none hn, if_neg (by omega)]
theorem zfind_lt {p : Nat → Bool} {n k : Nat} (h : zfind p n = some k) : k < n ∧ p k = true ∧ ∀ j, j < k → p j = false := by
  unfold zfind at h
  split at h
  · rename_i hl
    cases h
    exact ⟨hl, fa_first_yes p n hl, fun j hj => fa_first_no p n j hj⟩
  · cases h
/-- behind how many days it is first so: m + 1: not in m -/
def zwhen (c : CT) (m : Nat) : Nat := fa_first (fun k => zso (zdays k c)) (m + 1)
def zwhenI (c : CT) (m : Nat) : Int32 := if zwhen c m ≤ m then nI (zwhen c m) else -1
def zpass (c : CT) : CT := let c1 := if cWin c = -1 ∧ zso c = true then sWin c (cDay c) else c; let c2 := zcool 1 c1; sDay c2 (mnI 999 (cDay c2 + 1))
def zbef (c : CT) (i : Nat) : Nat := fa_cnt (fun j => decide (zc c i < zc c j) || (decide (j < i) && !decide (zc c j < zc c i))) (cN c)
def zrank (c : CT) (place : Int32) : Option Nat := zfind (fun i => decide (nI (zbef c i) = place)) (cN c)
def zseed (c : CT) : CT := sSeed c (cSeed c * 1103515245 + 12345)
def zdraw (c : CT) (n : Int32) : Int32 := let x := ((cSeed c * 1103515245 + 12345).toUInt32 >>> ((16 : Int32).toUInt32 &&& Int32.toUInt32 31)).toInt32; x - x / n * n
def zsettle (c : CT) (k a p : Int32) : CT := sLov (sFe (sBr (sPr (sAa (sKd (sPp c (cPp c + 1)) (va_up (cKd c) (cN c) k)) (va_up (cAa c) (cN c) a)) (va_up (cPr c) (cN c) p)) (va_up (cBr c) (cN c) 0)) (va_up (cFe c) (cN c) 0)) (cLov c + b2i (k = 4))
def zleave (c : CT) (p : Nat) : CT := sLov (sAway c (nI p)) (cLov c - b2i (cKd c p = 4))
def zmore (c : CT) (p : Nat) (n : Int32) : CT := sFe c (va_up (cFe c) p (mnI 40 (cFe c p + n)))
/-- nothing behind the eighth -/
def cTl (c : CT) : Prop := ∀ j, 8 ≤ j → cKd c j = 0 ∧ cAa c j = 0 ∧ cPr c j = 0 ∧ cBr c j = 0 ∧ cFe c j = 0
theorem cpy8 {f g : Nat → Int32} (h : ∀ j, 8 ≤ j → f j = g j) : va_cpy f g 0 0 8 = f := by
  funext k
  unfold va_cpy
  by_cases hk : k < 8
  · rw [if_pos (by omega)]
    congr 1
    omega
  · rw [if_neg (by omega), h k (by omega)]
