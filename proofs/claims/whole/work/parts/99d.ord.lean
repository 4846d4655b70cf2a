/-! orders: counted forwards and counted backwards -/
def zsI (f : Nat → Int32) : Nat → Int32
  | 0 => 0
  | i + 1 => zsI f i + f i
theorem zsI_c {f g : Nat → Int32} : ∀ {k : Nat}, (∀ i, i < k → f i = g i) → zsI f k = zsI g k
  | 0, _ => rfl
  | k + 1, h => by
    show zsI f k + f k = zsI g k + g k
    rw [zsI_c (fun i hi => h i (by omega)), h k (by omega)]
theorem zsI_0 : ∀ (k : Nat), zsI (fun _ => 0) k = 0
  | 0 => rfl
  | k + 1 => by
    show zsI (fun _ => 0) k + 0 = 0
    rw [zsI_0 k]; rfl
theorem zsI_p {f g : Nat → Int32} {t : Nat} {d : Int32} (h : ∀ i, i ≠ t → g i = f i) (ht : g t = f t + d) : ∀ (k : Nat), zsI g k = if t < k then zsI f k + d else zsI f k
  | 0 => (if_neg (Nat.not_lt_zero _)).symm
  | k + 1 => by
    have ih := zsI_p h ht k
    show zsI g k + g k = if t < k + 1 then zsI f k + f k + d else zsI f k + f k
    rw [ih]
    by_cases q : t < k
    · rw [if_pos q, if_pos (by omega), h k (by omega), Int32.add_assoc, Int32.add_comm d, ← Int32.add_assoc]
    · rw [if_neg q]
      by_cases e : t = k
      · subst e; rw [if_pos (by omega), ht, Int32.add_assoc]
      · rw [if_neg (by omega), h k (Ne.symm e)]
theorem zsI_pt {f g : Nat → Int32} {t k : Nat} {d : Int32} (hk : t < k) (h : ∀ i, i ≠ t → g i = f i) (ht : g t = f t + d) : zsI g k = zsI f k + d := by
  rw [zsI_p h ht k, if_pos hk]
theorem zst_or {B : Nat → Int32} {x y : Int32} {s i N : Nat} (hN : N ≤ 8) (hs : s < 2 ^ N) (hi : i < N) (h : zst B x y s i = true) : s < s ||| 2 ^ i ∧ s ||| 2 ^ i < 2 ^ N := by
  have h8 : (2 : Nat) ^ N ≤ 2 ^ 8 := Nat.pow_le_pow_right (by decide) hN
  have hb := of_decide_eq_true (Bool.and_eq_true_iff.mp h).1
  have h1 : ¬ (s ||| 2 ^ i) = s := zor_b s (by omega) i (by omega) hb
  have h2 : s ≤ s ||| 2 ^ i := Nat.left_le_or
  exact ⟨by omega, Nat.or_lt_two_pow hs (Nat.pow_lt_pow_right (by decide) hi)⟩
section ZCO
variable {B : Nat → Int32} {x y : Int32} {N : Nat} {P : Nat → Int32}
theorem zci_sum (hN : N ≤ 8) {m : Nat} (hm : m < 2 ^ N) (W : Nat → Int32) : ∀ i, i ≤ N → zsI (fun s => if m + 1 ≤ s then zci B x y m W i s * P s else 0) (2 ^ N) = zsI (fun s => if m + 1 ≤ s then W s * P s else 0) (2 ^ N) + W m * zsI (fun j => if zst B x y m j = true then P (m ||| 2 ^ j) else 0) i
  | 0, _ => by
    show zsI (fun s => if m + 1 ≤ s then W s * P s else 0) (2 ^ N) = _ + W m * 0
    rw [Int32.mul_zero, Int32.add_zero]
  | i + 1, h => by
    have ih := zci_sum hN hm W i (by omega)
    show _ = _ + W m * (zsI (fun j => if zst B x y m j = true then P (m ||| 2 ^ j) else 0) i + (if zst B x y m i = true then P (m ||| 2 ^ i) else 0))
    by_cases q : zst B x y m i = true
    · obtain ⟨q1, q2⟩ := zst_or hN hm (show i < N by omega) q
      rw [if_pos q, Int32.mul_add, ← Int32.add_assoc, ← ih]
      refine zsI_pt q2 (fun s hs => ?_) ?_
      · show (if m + 1 ≤ s then zci B x y m W (i + 1) s * P s else 0) = _
        have e : zci B x y m W (i + 1) s = zci B x y m W i s := by
          show (if zst B x y m i = true then va_up (zci B x y m W i) (m ||| 2 ^ i) (zci B x y m W i (m ||| 2 ^ i) + W m) else zci B x y m W i) s = _
          rw [if_pos q, az_up_ne hs]
        rw [e]
      · show (if m + 1 ≤ m ||| 2 ^ i then zci B x y m W (i + 1) (m ||| 2 ^ i) * P (m ||| 2 ^ i) else 0) = (if m + 1 ≤ m ||| 2 ^ i then zci B x y m W i (m ||| 2 ^ i) * P (m ||| 2 ^ i) else 0) + _
        rw [if_pos (by omega), if_pos (by omega)]
        have e : zci B x y m W (i + 1) (m ||| 2 ^ i) = zci B x y m W i (m ||| 2 ^ i) + W m := by
          show (if zst B x y m i = true then va_up (zci B x y m W i) (m ||| 2 ^ i) (zci B x y m W i (m ||| 2 ^ i) + W m) else zci B x y m W i) (m ||| 2 ^ i) = _
          rw [if_pos q, az_up_self]
        rw [e, Int32.add_mul]
    · rw [if_neg q, Int32.add_zero, ← ih]
      refine zsI_c (fun s _ => ?_)
      have e : zci B x y m W (i + 1) = zci B x y m W i := by
        show (if zst B x y m i = true then _ else zci B x y m W i) = _
        rw [if_neg q]
      rw [e]
theorem zcs_sum (hN : N ≤ 8) (h0 : P (2 ^ N - 1) = 1) (hP : ∀ s, s < 2 ^ N - 1 → P s = zsI (fun j => if zst B x y s j = true then P (s ||| 2 ^ j) else 0) N) : ∀ m, m ≤ 2 ^ N - 1 → zsI (fun s => if m ≤ s then zcs B x y N m s * P s else 0) (2 ^ N) = P 0
  | 0, _ => by
    have hp : 0 < 2 ^ N := Nat.two_pow_pos N
    refine (zsI_pt (f := fun _ => 0) (t := 0) (d := P 0) hp (fun s hs => ?_) ?_).trans ?_
    · show (if 0 ≤ s then va_up (fun _ => 0) 0 1 s * P s else 0) = 0
      rw [if_pos (Nat.zero_le _), az_up_ne hs, Int32.zero_mul]
    · show (if 0 ≤ 0 then va_up (fun _ => 0) 0 1 0 * P 0 else 0) = 0 + P 0
      rw [if_pos (Nat.zero_le _), az_up_self, Int32.one_mul, Int32.zero_add]
    · rw [zsI_0, Int32.zero_add]
  | m + 1, h => by
    have ih := zcs_sum hN h0 hP m (by omega)
    refine (zci_sum hN (show m < 2 ^ N by omega) (zcs B x y N m) N (Nat.le_refl _)).trans ?_
    rw [← hP m (by omega), ← ih]
    refine (zsI_pt (t := m) (by omega) (fun s hs => ?_) ?_).symm
    · show (if m ≤ s then _ else _) = if m + 1 ≤ s then _ else _
      by_cases q : m + 1 ≤ s
      · rw [if_pos q, if_pos (by omega)]
      · rw [if_neg q, if_neg (by omega)]
    · show (if m ≤ m then zcs B x y N m m * P m else 0) = (if m + 1 ≤ m then _ else 0) + _
      rw [if_pos (Nat.le_refl _), if_neg (by omega), Int32.zero_add]
theorem zco_P (hN : N ≤ 8) (h0 : P (2 ^ N - 1) = 1) (hP : ∀ s, s < 2 ^ N - 1 → P s = zsI (fun j => if zst B x y s j = true then P (s ||| 2 ^ j) else 0) N) : zco B x y N = P 0 := by
  have hp : 0 < 2 ^ N := Nat.two_pow_pos N
  have h8 : (2 : Nat) ^ N ≤ 2 ^ 8 := Nat.pow_le_pow_right (by decide) hN
  have hl : zco B x y N = zcs B x y N (2 ^ N - 1) (2 ^ N - 1) := by
    unfold zco
    generalize hk : 2 ^ N - 1 = k
    rw [show 2 ^ N = k + 1 by omega]
    exact zci_s (by omega) N hN
  refine Eq.trans ?_ (zcs_sum hN h0 hP (2 ^ N - 1) (Nat.le_refl _))
  refine Eq.symm ((zsI_c (g := fun s => if s = 2 ^ N - 1 then zco B x y N else 0) (fun s hs => ?_)).trans ?_)
  · by_cases q : s = 2 ^ N - 1
    · rw [if_pos q, if_pos (by omega), q, h0, Int32.mul_one, hl]
    · rw [if_neg q, if_neg (by omega)]
  · refine (zsI_pt (f := fun _ => 0) (t := 2 ^ N - 1) (d := zco B x y N) (by omega) (fun s hs => if_neg hs) ?_).trans ?_
    · show (if 2 ^ N - 1 = 2 ^ N - 1 then zco B x y N else 0) = 0 + zco B x y N
      rw [if_pos rfl, Int32.zero_add]
    · rw [zsI_0, Int32.zero_add]
end ZCO
