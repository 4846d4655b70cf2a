/-! the reference's question on a set, by its complement -/
theorem cmp_or : ∀ N, N < 9 → ∀ s, s < 2 ^ N → nI s ^^^ (-1) = nI (2 ^ N - 1 - s) ||| (nI (2 ^ N - 1) ^^^ (-1)) := by decide +kernel
theorem cmp_bit : ∀ N, N < 9 → ∀ s, s < 2 ^ N → ∀ j, j < N → ((nI s >>> (nI j &&& 31)) &&& 1 = 0 ↔ (nI (2 ^ N - 1 - s) >>> (nI j &&& 31)) &&& 1 = 1) := by decide +kernel
theorem cmp_tb : ∀ N, N < 9 → ∀ s, s < 2 ^ N → ∀ q, q < N → (Nat.testBit s q = true ↔ ¬ (nI (2 ^ N - 1 - s) >>> (nI q &&& 31)) &&& 1 = 1) := by decide +kernel
theorem cmp_rm : ∀ N, N < 9 → ∀ s, s < 2 ^ N → ∀ j, j < N → nI (2 ^ N - 1 - s) &&& (((1 : Int32) <<< (nI j &&& 31)) ^^^ (-1)) = nI (2 ^ N - 1 - (s ||| 2 ^ j)) := by decide +kernel
theorem zst_may {B : Nat → Int32} {N s j : Nat} (hN : N ≤ 8) (hB : B j &&& (nI (2 ^ N - 1) ^^^ (-1)) = 0) (hs : s < 2 ^ N) (hj : j < N) : zst B (-1) (-1) s j = true ↔ (nI (2 ^ N - 1 - s) >>> (nI j &&& 31)) &&& 1 = 1 ∧ B j &&& nI (2 ^ N - 1 - s) = 0 := by
  unfold zst
  rw [zun_n, Bool.and_eq_true_iff, decide_eq_true_iff, decide_eq_true_iff, cmp_bit N (by omega) s hs j hj, cmp_or N (by omega) s hs]
  have e : B j &&& (nI (2 ^ N - 1 - s) ||| (nI (2 ^ N - 1) ^^^ (-1))) = 0 ↔ B j &&& nI (2 ^ N - 1 - s) = 0 := by
    rw [Int32.and_comm, or_and0, Int32.and_comm, Int32.and_comm _ (B j)]
    exact ⟨fun q => q.1, fun q => ⟨q, hB⟩⟩
  rw [e]
