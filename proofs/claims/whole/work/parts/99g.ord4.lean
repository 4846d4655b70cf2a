/-! who is told below whom: only people's bits -/
theorem bit_hi : ∀ N, N ≤ 8 → ∀ q, q < N → ((1 : Int32) <<< (nI q &&& 31)) &&& (nI (2 ^ N - 1) ^^^ (-1)) = 0 := by
  intro N hN q hq
  have h8 : (2 : Nat) ^ N ≤ 2 ^ 8 := Nat.pow_le_pow_right (by decide) hN
  have hp := Nat.two_pow_pos N
  refine (bit_q (2 ^ N - 1) (by omega) q (by omega)).mpr ?_
  rw [Nat.testBit_two_pow_sub_one]; exact decide_eq_true hq
theorem zcl_hi {N : Nat} (hN : N ≤ 8) {r1 r2 : Nat → Int64} : ∀ k, (∀ i, i < k → zpx (r2 i) < N) → ∀ j, zcl N r1 r2 k j &&& (nI (2 ^ N - 1) ^^^ (-1)) = 0
  | 0, _, j => Int32.zero_and
  | k + 1, h, j => by
    have ih := zcl_hi (r1 := r1) hN k (fun i hi => h i (by omega))
    show zpn N (zcl N r1 r2 k) (zpx (r1 k)) (zpx (r2 k)) N j &&& _ = 0
    unfold zpn
    by_cases q : j < N ∧ (j = zpx (r1 k) ∨ zbl (zcl N r1 r2 k) (zpx (r1 k)) j = true)
    · rw [if_pos q]
      exact or_and0.mpr ⟨ih j, or_and0.mpr ⟨ih _, bit_hi N hN _ (h k (by omega))⟩⟩
    · rw [if_neg q]; exact ih j
