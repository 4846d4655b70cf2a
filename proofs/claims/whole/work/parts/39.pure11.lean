/-! statements of the tape, pure -/
def znx (T : Nat → Int32) (m e : Nat) : Nat := (zst3 T m e).2
def zTs (sg : Nat → Nat → Int32) (o : Nat) (T : Nat → Int32) (m e : Nat) : Nat → Nat → Int32 := zTp sg o (zst3 T m e).1 (nI (zss T m e)) (nI (znx T m e))
theorem znx_le {T : Nat → Int32} {m e : Nat} (h : e ≤ m) : znx T m e ≤ m := (zst3_le h).2.2
theorem zvl_rng {T : Nat → Int32} {s : Nat} : ∀ n, n ≤ 3 → (∀ k, k < n → (48 : Int32) ≤ T (s + k) ∧ T (s + k) ≤ 57) → ∃ v, v < 10 ^ n ∧ zvl T s n = nI v
  | 0, _, _ => ⟨0, by decide, nI_0.symm⟩
  | n + 1, hn, h => by
    obtain ⟨v, hv, he⟩ := zvl_rng n (by omega) (fun k hk => h k (by omega))
    have hd := h n (by omega)
    have h1 : 48 ≤ (T (s + n)).toInt := by have q := Int32.le_iff_toInt_le.mp hd.1; rwa [show (48 : Int32).toInt = 48 by decide] at q
    have h2 : (T (s + n)).toInt ≤ 57 := by have q := Int32.le_iff_toInt_le.mp hd.2; rwa [show (57 : Int32).toInt = 57 by decide] at q
    obtain ⟨w, hw⟩ : ∃ w : Nat, (T (s + n)).toInt = 48 + w := ⟨((T (s + n)).toInt - 48).toNat, by omega⟩
    have hT : T (s + n) = nI (48 + w) := Int32.toInt_inj.mp (by rw [hw, nI_toInt (by omega)]; omega)
    have hp : 10 ^ (n + 1) = 10 * 10 ^ n := by rw [Nat.pow_succ]; omega
    refine ⟨10 * v + w, by omega, ?_⟩
    show 10 * zvl T s n + T (s + n) - 48 = _
    have h3 : 10 ^ n ≤ 100 := Nat.pow_le_pow_right (n := 10) (j := 2) (by omega) (by omega)
    rw [he, hT, show (10 : Int32) = nI 10 from rfl, nI_mul, nI_add, show (48 : Int32) = nI 48 from rfl, nI_sub (by omega) (by omega)]
    congr 1
    omega
theorem znum_rng {T : Nat → Int32} {m e : Nat} {most : Int32} (he : e ≤ m) (h : ¬ znum T m e most = -1) : ∃ v, v < 1000 ∧ znum T m e most = nI v ∧ nI v ≤ most := by
  by_cases hc : (zst3 T m e).1 = 2 ∧ (zst3 T m e).2 - zss T m e ≤ 3
  · have hz : znum T m e most = if zvl T (zss T m e) ((zst3 T m e).2 - zss T m e) ≤ most then zvl T (zss T m e) ((zst3 T m e).2 - zss T m e) else -1 := if_pos hc
    have hs := zrun_facts (zspc T) he
    have hE : (zst3 T m e).2 = zsd T m e := by
      by_cases q1 : m ≤ zss T m e
      · rw [zst3_0 q1] at hc; exact absurd (show (0 : Int32) = 2 from hc.1) (by decide)
      · by_cases q2 : zss T m e < zsl T m e
        · rw [zst3_1 q1 q2] at hc; exact absurd (show (1 : Int32) = 2 from hc.1) (by decide)
        · by_cases q3 : zss T m e < zsd T m e
          · rw [zst3_2 q1 q2 q3]
          · rw [zst3_3 q1 q2 q3] at hc
            by_cases q4 : T (zss T m e) = 59
            · rw [if_pos q4] at hc; exact absurd (show (3 : Int32) = 2 from hc.1) (by decide)
            · rw [if_neg q4] at hc; exact absurd (show (4 : Int32) = 2 from hc.1) (by decide)
    have hd := zrun_facts (zcr T 48 57) (e := zss T m e) hs.2.1
    obtain ⟨v, hv, hve⟩ := zvl_rng (T := T) (s := zss T m e) ((zst3 T m e).2 - zss T m e) hc.2 (fun k hk => by
      have q := hd.2.2.1 (zss T m e + k) (by omega) (by rw [hE] at hk; unfold zsd at hk; omega)
      exact ⟨zcr_1 q, zcr_2 q⟩)
    have h1000 : 10 ^ ((zst3 T m e).2 - zss T m e) ≤ 1000 := Nat.pow_le_pow_right (n := 10) (j := 3) (by omega) hc.2
    by_cases hm : zvl T (zss T m e) ((zst3 T m e).2 - zss T m e) ≤ most
    · rw [if_pos hm] at hz
      exact ⟨v, by omega, by rw [hz, hve], by rw [← hve]; exact hm⟩
    · rw [if_neg hm] at hz; exact absurd hz h
  · exact absurd (show znum T m e most = -1 from if_neg hc) h
def zper (T : Nat → Int32) (m e : Nat) (c : CT) : Bool × Nat × CT :=
  if znum T m e 5 = -1 then (false, e, c)
  else if znum T m (znx T m e) 9 = -1 then (false, znx T m e, c)
  else if znum T m (znx T m (znx T m e)) 20 = -1 then (false, znx T m (znx T m e), c)
  else (true, znx T m (znx T m e), zsettle c (znum T m e 5) (znum T m (znx T m e) 9) (znum T m (znx T m (znx T m e)) 20))
theorem zper_1 {T : Nat → Int32} {m e : Nat} {c : CT} (h1 : znum T m e 5 = -1) : zper T m e c = (false, e, c) := if_pos h1
theorem zper_2 {T : Nat → Int32} {m e : Nat} {c : CT} (h1 : ¬ znum T m e 5 = -1) (h2 : znum T m (znx T m e) 9 = -1) : zper T m e c = (false, znx T m e, c) := (if_neg h1).trans (if_pos h2)
theorem zper_3 {T : Nat → Int32} {m e : Nat} {c : CT} (h1 : ¬ znum T m e 5 = -1) (h2 : ¬ znum T m (znx T m e) 9 = -1) (h3 : znum T m (znx T m (znx T m e)) 20 = -1) : zper T m e c = (false, znx T m (znx T m e), c) := (if_neg h1).trans ((if_neg h2).trans (if_pos h3))
theorem zper_4 {T : Nat → Int32} {m e : Nat} {c : CT} (h1 : ¬ znum T m e 5 = -1) (h2 : ¬ znum T m (znx T m e) 9 = -1) (h3 : ¬ znum T m (znx T m (znx T m e)) 20 = -1) : zper T m e c = (true, znx T m (znx T m e), zsettle c (znum T m e 5) (znum T m (znx T m e) 9) (znum T m (znx T m (znx T m e)) 20)) := (if_neg h1).trans ((if_neg h2).trans (if_neg h3))
def zpor (T : Nat → Int32) (m e : Nat) (f : Nat → Int32) (N : Nat) (most : Int32) : Bool × Nat × (Nat → Int32) :=
  if znum T m e (nI N - 1) = -1 then (false, e, f)
  else if znum T m (znx T m e) most = -1 then (false, znx T m e, f)
  else (true, znx T m e, va_up f (znum T m e (nI N - 1)).toNatClampNeg (znum T m (znx T m e) most))
theorem zpor_1 {T : Nat → Int32} {m e : Nat} {f : Nat → Int32} {N : Nat} {most : Int32} (h1 : znum T m e (nI N - 1) = -1) : zpor T m e f N most = (false, e, f) := if_pos h1
theorem zpor_2 {T : Nat → Int32} {m e : Nat} {f : Nat → Int32} {N : Nat} {most : Int32} (h1 : ¬ znum T m e (nI N - 1) = -1) (h2 : znum T m (znx T m e) most = -1) : zpor T m e f N most = (false, znx T m e, f) := (if_neg h1).trans (if_pos h2)
theorem zpor_3 {T : Nat → Int32} {m e : Nat} {f : Nat → Int32} {N : Nat} {most : Int32} {w : Nat} (h1 : ¬ znum T m e (nI N - 1) = -1) (h2 : ¬ znum T m (znx T m e) most = -1) (hw : znum T m e (nI N - 1) = nI w) (hw2 : w < 1000) : zpor T m e f N most = (true, znx T m e, va_up f w (znum T m (znx T m e) most)) := by
  refine (if_neg h1).trans ((if_neg h2).trans ?_)
  rw [hw, nI_clamp (by omega)]
theorem znum_N {N w : Nat} (hN : N ≤ 8) (hw : w < 1000) (h : nI w ≤ nI N - 1) : w < 8 := by
  rcases Nat.eq_zero_or_pos N with h0 | h0
  · subst h0
    exact absurd (Int32.le_trans (nI_pos' (by omega)) h) (by decide)
  · rw [show N = N - 1 + 1 by omega, nI_pred] at h
    have := (nI_leI (by omega) (by omega)).mp h
    omega
