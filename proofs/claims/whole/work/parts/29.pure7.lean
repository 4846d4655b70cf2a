/-! Chances, pure -/
def lyH (o : Nat) : List az_Sh := (1, 0, [some (some (o + 1)), some (some (o + 7)), some (some (o + 8)), none]) :: (lyC (o + 1) ++ [(100, 41, []), (100, 41, [])])
theorem lyH_C {sh : List az_Sh} {o : Nat} (h : az_at sh o (lyH o)) : az_at sh (o + 1) (lyC (o + 1)) := by
  intro k q hk
  have hl : k < 6 := by
    rcases Nat.lt_or_ge k 6 with q9 | q9
    · exact q9
    · rw [List.getElem?_eq_none (by show 6 ≤ k; exact q9)] at hk; cases hk
  have h2 := h (k + 1) q (by
    show (lyC (o + 1) ++ _)[k]? = some q
    rw [List.getElem?_append_left (by show k < 6; exact hl)]
    exact hk)
  rw [show o + 1 + k = o + (k + 1) by omega]
  exact h2
theorem mx0_sub {i j : Nat} (hi : i < 1000) (hj : j < 1000) : mx0 (nI i - nI j) = nI (i - j) := by
  have h1 : (nI i - nI j).toInt = (i : Int) - j := by
    rw [Int32.toInt_sub, nI_toInt (by omega), nI_toInt (by omega)]
    exact Int.bmod_eq_of_le (by omega) (by omega)
  refine Int32.toInt_inj.mp ?_
  rw [mx0_toInt, h1, nI_toInt (by omega)]
  omega
theorem nI_mul (a b : Nat) : nI a * nI b = nI (a * b) := (Int32.ofNat_mul a b).symm
def zfi (w : Nat → Nat) (a m : Nat) : Nat → Nat → Nat
  | 0 => va_up w a 0
  | f + 1 => va_up (zfi w a m f) (a - f) (zfi w a m f (a - f) + m)
def zfs (w : Nat → Nat) : Nat → Nat → Nat
  | 0 => w
  | a + 1 => zfi (zfs w a) a (zfs w a a) 4
def zfo (w : Nat → Nat) : Nat → Nat := zfs w 41
def zI (w : Nat → Nat) : Nat → Int32 := fun j => nI (w j)
theorem zI_up (w : Nat → Nat) (a x : Nat) : va_up (zI w) a (nI x) = zI (va_up w a x) := by
  funext j
  by_cases h : j = a
  · subst h; show _ = nI (va_up w j x j); rw [az_up_self, az_up_self]
  · show _ = nI (va_up w a x j); rw [az_up_ne h, az_up_ne h]; rfl
def zdr (c : CT) (q : Nat → Nat) (i : Nat) : Nat → Nat := fun j => if j < i ∧ zso (sAir c (nI j)) = true then 0 else q j
theorem zdr_0 (c : CT) (q : Nat → Nat) : zdr c q 0 = q := funext fun j => if_neg (fun h => absurd h.1 (by omega))
theorem zdr_at (c : CT) (q : Nat → Nat) (i : Nat) : zdr c q i i = q i := if_neg (fun h => absurd h.1 (by omega))
theorem zdr_y {c : CT} {q : Nat → Nat} {i : Nat} (h : zso (sAir c (nI i)) = true) : va_up (zI (zdr c q i)) i 0 = zI (zdr c q (i + 1)) := by
  funext j
  by_cases hj : j = i
  · subst hj
    rw [az_up_self]
    show _ = nI (if _ then _ else _)
    rw [if_pos ⟨by omega, h⟩, nI_0]
  · rw [az_up_ne hj]
    show nI (if _ then _ else _) = nI (if _ then _ else _)
    by_cases h2 : j < i ∧ zso (sAir c (nI j)) = true
    · rw [if_pos h2, if_pos ⟨by omega, h2.2⟩]
    · rw [if_neg h2, if_neg (fun q2 => h2 ⟨by omega, q2.2⟩)]
theorem zdr_n {c : CT} {q : Nat → Nat} {i : Nat} (h : ¬ zso (sAir c (nI i)) = true) : zI (zdr c q i) = zI (zdr c q (i + 1)) := by
  funext j
  show nI (if _ then _ else _) = nI (if _ then _ else _)
  by_cases h2 : j < i ∧ zso (sAir c (nI j)) = true
  · rw [if_pos h2, if_pos ⟨by omega, h2.2⟩]
  · rw [if_neg h2, if_neg (fun q2 => h2 ⟨(by
      rcases Nat.lt_or_ge j i with q9 | q9
      · exact q9
      · have : j = i := by omega
        subst this
        exact absurd q2.2 h), q2.2⟩)]
theorem zdr_z {c : CT} {q : Nat → Nat} {i : Nat} (h : zI (zdr c q i) i = 0) : zI (zdr c q i) = zI (zdr c q (i + 1)) := by
  by_cases hs : zso (sAir c (nI i)) = true
  · rw [← zdr_y hs, ← h, az_up_id]
  · exact zdr_n hs
/-- the store of Chances -/
def zU (sg : Nat → Nat → Int32) (o : Nat) (k : Int32) (W Q : Nat → Int32) : Nat → Nat → Int32 := va_up (va_up (az_w sg o 3 k) (o + 7) W) (o + 8) Q
theorem zU_8 (sg : Nat → Nat → Int32) (o : Nat) (k : Int32) (W Q : Nat → Int32) : zU sg o k W Q (o + 8) = Q := az_up_self
theorem zU_7 (sg : Nat → Nat → Int32) (o : Nat) (k : Int32) (W Q : Nat → Int32) : zU sg o k W Q (o + 7) = W := by unfold zU; rw [az_up_ne (by omega), az_up_self]
theorem zU_ne {sg : Nat → Nat → Int32} {o : Nat} {k : Int32} {W Q : Nat → Int32} {i : Nat} (h : i ≠ o ∧ i ≠ o + 7 ∧ i ≠ o + 8) : zU sg o k W Q i = sg i := by unfold zU; rw [az_up_ne h.2.2, az_up_ne h.2.1, az_w_ne h.1]
theorem zU_3 (sg : Nat → Nat → Int32) (o : Nat) (k : Int32) (W Q : Nat → Int32) : zU sg o k W Q o 3 = k := by unfold zU; rw [az_up_ne (by omega), az_up_ne (by omega), az_w_at]
theorem zU_0 (sg : Nat → Nat → Int32) (o : Nat) : sg = zU sg o (sg o 3) (sg (o + 7)) (sg (o + 8)) := by
  unfold zU az_w
  rw [az_up_id, az_up_id, az_up_id, az_up_id]
theorem zput_up {s : Nat → Nat → Int32} {o k : Nat} {c : CT} {f : Nat → Int32} (h : k < o ∨ o + 6 ≤ k) : va_up (zput s o c) k f = zput (va_up s k f) o c := by
  funext q
  by_cases hq : q = k
  · subst hq; rw [az_up_self, zput_ne h, az_up_self]
  · rw [az_up_ne hq]
    by_cases h2 : q < o ∨ o + 6 ≤ q
    · rw [zput_ne h2, zput_ne h2, az_up_ne hq]
    · have hk : q = o ∨ q = o + 1 ∨ q = o + 2 ∨ q = o + 3 ∨ q = o + 4 ∨ q = o + 5 := by omega
      rcases hk with rfl | rfl | rfl | rfl | rfl | rfl
      · rw [zput_o, zput_o, az_up_ne hq]
      · rw [za_1, za_1]
      · rw [za_2, za_2]
      · rw [za_3, za_3]
      · rw [za_4, za_4]
      · rw [za_5, za_5]
theorem zU_w7 {sg : Nat → Nat → Int32} {o : Nat} {k : Int32} {W Q W' : Nat → Int32} {c : CT} : va_up (zput (zU sg o k W Q) (o + 1) c) (o + 7) W' = zput (zU sg o k W' Q) (o + 1) c := by
  rw [zput_up (by omega)]
  unfold zU
  rw [az_up_sw _ (by omega), az_up_up]
theorem zU_w8 {sg : Nat → Nat → Int32} {o : Nat} {k : Int32} {W Q Q' : Nat → Int32} {c : CT} : va_up (zput (zU sg o k W Q) (o + 1) c) (o + 8) Q' = zput (zU sg o k W Q') (o + 1) c := by
  rw [zput_up (by omega)]
  unfold zU
  rw [az_up_up]
theorem zU_wk {sg : Nat → Nat → Int32} {o : Nat} {k k' : Int32} {W Q : Nat → Int32} {c : CT} : az_w (zput (zU sg o k W Q) (o + 1) c) o 3 k' = zput (zU sg o k' W Q) (o + 1) c := by
  rw [zw_out (by omega)]
  unfold zU az_w
  rw [az_up_ne (by omega), az_up_ne (by omega), az_up_self, az_up_sw _ (by omega : o + 8 ≠ o), az_up_sw _ (by omega : o + 7 ≠ o), az_up_up, az_up_up]
theorem zU_e7 {sg : Nat → Nat → Int32} {o j : Nat} {k x : Int32} {W Q : Nat → Int32} {c : CT} : az_w (zput (zU sg o k W Q) (o + 1) c) (o + 7) j x = zput (zU sg o k (va_up W j x) Q) (o + 1) c := by
  unfold az_w
  rw [zput_ne (by omega), zU_7]
  exact zU_w7
theorem zU_e8 {sg : Nat → Nat → Int32} {o j : Nat} {k x : Int32} {W Q : Nat → Int32} {c : CT} : az_w (zput (zU sg o k W Q) (o + 1) c) (o + 8) j x = zput (zU sg o k W (va_up Q j x)) (o + 1) c := by
  unfold az_w
  rw [zput_ne (by omega), zU_8]
  exact zU_w8
theorem ct_U {sg : Nat → Nat → Int32} {o n0 : Nat} {k : Int32} {W Q : Nat → Int32} (h : n0 + 5 < o ∨ o + 9 ≤ n0) : ct (zU sg o k W Q) n0 = ct sg n0 := by
  unfold ct
  rw [zU_ne (by omega), zU_ne (by omega), zU_ne (by omega), zU_ne (by omega), zU_ne (by omega), zU_ne (by omega)]
theorem cRng_air {c : CT} (h : cRng c) {i : Nat} (hi : i ≤ 40) : cRng (sAir c (nI i)) := ⟨h.1, nI_le40 hi, h.2.2.1, h.2.2.2⟩
theorem cRng_fall0 {c : CT} (h : cRng c) : cRng (sFall c 0) := ⟨h.1, h.2.1, by show iR 0 5; unfold iR; decide, h.2.2.2⟩
def zW (a : Nat) : Nat → Nat → Nat
  | 0 => va_up (fun _ => 0) a 1
  | d + 1 => zfo (zW a d)
def zQ (c : CT) (a : Nat) : Nat → Nat → Nat
  | 0 => zdr c (zW a 0) 41
  | d + 1 => zdr (zdays (d + 1) c) (zfo (zQ c a d)) 41
def zsm (q : Nat → Nat) : Nat → Nat
  | 0 => 0
  | i + 1 => zsm q i + q i
def zsmL (q : Nat → Nat) : Nat → Int64
  | 0 => 0
  | i + 1 => zsmL q i + (nI i).toInt64 * (nI (q i)).toInt64
theorem zfill_z {f : Nat → Int32} {n : Nat} (h : ∀ j, n ≤ j → f j = 0) : zfill f n 0 = zI (fun _ => 0) := by
  funext j
  unfold zfill
  show _ = nI 0
  rw [nI_0]
  by_cases hj : j < n
  · rw [if_pos hj]
  · rw [if_neg hj]; exact h j (by omega)
theorem zcool_air (c : CT) (k a : Int32) : ∃ b, zcool k (sAir c a) = sAir (zcool k c) b := ⟨_, rfl⟩
theorem cTl_fall {c : CT} (h : cTl c) (x : Int32) : cTl (sFall c x) := h
def zlik (K s : Int32) : Int32 := if K < 1 then 0 else ((K - s).toInt64 * 1000000 / K.toInt64).toInt32
def zmean (K : Int32) (s : Int64) : Int32 := if K < 1 then 0 else (s * 1000 / K.toInt64).toInt32
