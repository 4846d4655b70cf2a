/-! the reference's table of ways -/
def zmy (B : Nat → Int32) (x y : Int32) (t j : Nat) : Bool := decide ((nI t >>> (nI j &&& 31)) &&& 1 = 1) && (decide (B j &&& nI t = 0) && !(decide (nI j = x ∧ (nI t >>> (y &&& 31)) &&& 1 = 1)))
def zrm (t j : Nat) : Nat := (nI t &&& (((1 : Int32) <<< (nI j &&& 31)) ^^^ (-1))).toNatClampNeg
def zrs (B : Nat → Int32) (x y : Int32) (t : Nat) (R : Nat → Int32) : Nat → Int32 := zsI (fun j => if zmy B x y t j = true then R (zrm t j) else 0)
def zrt (B : Nat → Int32) (x y : Int32) (N : Nat) (w : Nat → Int32) : Nat → Nat → Int32
  | 0 => va_up w 0 1
  | k + 1 => va_up (zrt B x y N w k) (k + 1) (zrs B x y (k + 1) (zrt B x y N w k) N)
theorem zrt_k {B : Nat → Int32} {x y : Int32} {N : Nat} {w : Nat → Int32} : ∀ (d k : Nat) {i : Nat}, i ≤ k → zrt B x y N w (k + d) i = zrt B x y N w k i
  | 0, _, _, _ => rfl
  | d + 1, k, i, h => by
    show va_up (zrt B x y N w (k + d)) (k + d + 1) _ i = _
    rw [az_up_ne (by omega)]
    exact zrt_k d k h
theorem zrm_lt : ∀ t, t < 256 → ∀ j, j < 8 → (nI t >>> (nI j &&& 31)) &&& 1 = 1 → zrm t j < t := by decide +kernel
theorem zrm_cmp {N s j : Nat} (hN : N ≤ 8) (hs : s < 2 ^ N) (hj : j < N) : zrm (2 ^ N - 1 - s) j = 2 ^ N - 1 - (s ||| 2 ^ j) := by
  unfold zrm
  rw [cmp_rm N (by omega) s hs j hj]
  have h8 : (2 : Nat) ^ N ≤ 2 ^ 8 := Nat.pow_le_pow_right (by decide) hN
  exact nI_clamp (by omega)
/-- the two ways to ask -/
def zask (N : Nat) (x y : Int32) : Prop := (x = -1 ∧ y = -1) ∨ ∃ p q, p < N ∧ q < N ∧ x = nI p ∧ y = nI q
theorem zmy_st {B : Nat → Int32} {x y : Int32} {N s j : Nat} (hN : N ≤ 8) (hB : ∀ j, B j &&& (nI (2 ^ N - 1) ^^^ (-1)) = 0) (hx : zask N x y) (hs : s < 2 ^ N) (hj : j < N) : zmy B x y (2 ^ N - 1 - s) j = zst B x y s j := by
  have h8 : (2 : Nat) ^ N ≤ 2 ^ 8 := Nat.pow_le_pow_right (by decide) hN
  have hm := zst_may (B := B) hN (hB j) hs hj
  have e0 : (decide ((nI (2 ^ N - 1 - s) >>> (nI j &&& 31)) &&& 1 = 1) && decide (B j &&& nI (2 ^ N - 1 - s) = 0)) = zst B (-1) (-1) s j := by
    rw [Bool.eq_iff_iff, Bool.and_eq_true_iff, decide_eq_true_iff, decide_eq_true_iff, hm]
  unfold zmy
  rw [← Bool.and_assoc, e0]
  rcases hx with ⟨rfl, rfl⟩ | ⟨p, q, hp, hq, rfl, rfl⟩
  · rw [decide_eq_false (fun w => nI_n1 (by omega) w.1), Bool.not_false, Bool.and_true]
  · by_cases e : j = p
    · subst e
      rw [zst_eq (by omega) (by omega) (by omega)]
      congr 1
      have hc := cmp_tb N (by omega) s hs q hq
      by_cases z : Nat.testBit s q = true
      · rw [decide_eq_false (fun w => hc.mp z w.2), z]; rfl
      · rw [decide_eq_true ⟨rfl, Decidable.byContradiction (fun w => z (hc.mpr w))⟩, Bool.eq_false_iff.mpr z]; rfl
    · rw [decide_eq_false (fun w => e ((nI_eq (by omega) (by omega)).mp w.1)), Bool.not_false, Bool.and_true, zst_ne (by omega) (by omega) e]
theorem zrt_Pr {B : Nat → Int32} {x y : Int32} {N : Nat} (w : Nat → Int32) (hN : N ≤ 8) (hB : ∀ j, B j &&& (nI (2 ^ N - 1) ^^^ (-1)) = 0) (hx : zask N x y) : zPr B x y N (fun s => zrt B x y N w (2 ^ N - 1) (2 ^ N - 1 - s)) := by
  have h8 : (2 : Nat) ^ N ≤ 2 ^ 8 := Nat.pow_le_pow_right (by decide) hN
  have hk : ∀ k i, i ≤ k → k ≤ 2 ^ N - 1 → zrt B x y N w (2 ^ N - 1) i = zrt B x y N w k i := by
    intro k i a b
    have := zrt_k (B := B) (x := x) (y := y) (N := N) (w := w) (2 ^ N - 1 - k) k a
    rwa [show k + (2 ^ N - 1 - k) = 2 ^ N - 1 by omega] at this
  refine ⟨?_, fun s hs => ?_⟩
  · show zrt B x y N w (2 ^ N - 1) (2 ^ N - 1 - (2 ^ N - 1)) = 1
    rw [Nat.sub_self, hk 0 0 (Nat.le_refl _) (Nat.zero_le _)]; exact az_up_self
  · show zrt B x y N w (2 ^ N - 1) (2 ^ N - 1 - s) = _
    obtain ⟨k, ek⟩ : ∃ k, 2 ^ N - 1 - s = k + 1 := ⟨2 ^ N - 1 - s - 1, by omega⟩
    rw [ek, hk (k + 1) (k + 1) (Nat.le_refl _) (by omega)]
    show va_up (zrt B x y N w k) (k + 1) (zrs B x y (k + 1) (zrt B x y N w k) N) (k + 1) = _
    rw [az_up_self, ← ek]
    refine zsI_c (fun j hj => ?_)
    rw [zmy_st hN hB hx (by omega) hj, zrm_cmp hN (by omega) hj]
    by_cases z : zst B x y s j = true
    · rw [if_pos z, if_pos z]
      have hlt : s < s ||| 2 ^ j := (zst_or hN (by omega) hj z).1
      exact (hk k _ (by omega) (by omega)).symm
    · rw [if_neg z, if_neg z]
theorem zco_rt {B : Nat → Int32} {x y : Int32} {N : Nat} (w : Nat → Int32) (hN : N ≤ 8) (hB : ∀ j, B j &&& (nI (2 ^ N - 1) ^^^ (-1)) = 0) (hx : zask N x y) : zrt B x y N w (2 ^ N - 1) (2 ^ N - 1) = zco B x y N := by
  have h := zrt_Pr w hN hB hx
  exact (zco_P hN h.1 h.2).symm
