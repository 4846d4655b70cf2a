theorem zsI_add (f g : Nat → Int32) : ∀ k, zsI f k + zsI g k = zsI (fun i => f i + g i) k
  | 0 => rfl
  | k + 1 => by
    show zsI f k + f k + (zsI g k + g k) = zsI (fun i => f i + g i) k + (f k + g k)
    rw [← zsI_add f g k, Int32.add_assoc, Int32.add_assoc, ← Int32.add_assoc (f k), Int32.add_comm (f k), Int32.add_assoc]
theorem tb_or {s j p : Nat} : Nat.testBit (s ||| 2 ^ j) p = (Nat.testBit s p || decide (j = p)) := by
  rw [Nat.testBit_or, Nat.testBit_two_pow]
def zPr (B : Nat → Int32) (x y : Int32) (N : Nat) (P : Nat → Int32) : Prop := P (2 ^ N - 1) = 1 ∧ ∀ s, s < 2 ^ N - 1 → P s = zsI (fun j => if zst B x y s j = true then P (s ||| 2 ^ j) else 0) N
theorem pq_sum {B : Nat → Int32} {N p q : Nat} {P P1 P2 : Nat → Int32} (hN : N ≤ 8) (hp : p < N) (hq : q < N) (hpq : p ≠ q) (h0 : zPr B (-1) (-1) N P) (h1 : zPr B (nI p) (nI q) N P1) (h2 : zPr B (nI q) (nI p) N P2) : ∀ k s, s + k = 2 ^ N - 1 → (Nat.testBit s p = true ∨ Nat.testBit s q = true → P1 s = P s ∧ P2 s = P s) ∧ (Nat.testBit s p = false → Nat.testBit s q = false → P1 s + P2 s = P s) := by
  intro k
  induction k using Nat.strongRecOn with
  | _ k ih =>
    intro s hs
    have h8 : (2 : Nat) ^ N ≤ 2 ^ 8 := Nat.pow_le_pow_right (by decide) hN
    have hpw : 0 < 2 ^ N := Nat.two_pow_pos N
    by_cases hk : k = 0
    · have e : s = 2 ^ N - 1 := by omega
      subst e
      refine ⟨fun _ => ⟨h1.1.trans h0.1.symm, h2.1.trans h0.1.symm⟩, fun z _ => ?_⟩
      rw [Nat.testBit_two_pow_sub_one, decide_eq_true hp] at z; cases z
    · have hsf : s < 2 ^ N - 1 := by omega
      have st : ∀ j, j < N → zst B (-1) (-1) s j = true → ∃ k', k' < k ∧ (s ||| 2 ^ j) + k' = 2 ^ N - 1 := by
        intro j hj hz
        obtain ⟨a, b⟩ := zst_or hN (show s < 2 ^ N by omega) hj hz
        exact ⟨2 ^ N - 1 - (s ||| 2 ^ j), by omega, by omega⟩
      have off : ∀ j, j < N → zst B (-1) (-1) s j = true → Nat.testBit s j = false := by
        intro j hj hz
        exact (bit_0 s (by omega) j (by omega)).mp (of_decide_eq_true (Bool.and_eq_true_iff.mp hz).1)
      refine ⟨fun hor => ⟨?_, ?_⟩, fun zp zq => ?_⟩
      · rw [h1.2 s hsf, h0.2 s hsf]
        refine zsI_c (fun j hj => ?_)
        have e : zst B (nI p) (nI q) s j = zst B (-1) (-1) s j := by
          by_cases ej : j = p
          · subst ej
            rw [zst_eq (by omega) (by omega) (by omega)]
            by_cases z : zst B (-1) (-1) s j = true
            · rcases hor with w | w
              · rw [off j hj z] at w; cases w
              · rw [w, Bool.and_true]
            · rw [Bool.eq_false_iff.mpr z, Bool.false_and]
          · exact zst_ne (by omega) (by omega) ej
        rw [e]
        by_cases z : zst B (-1) (-1) s j = true
        · obtain ⟨k', a, b⟩ := st j hj z
          rw [if_pos z, if_pos z]
          exact ((ih k' a _ b).1 (by rw [tb_or, tb_or]; rcases hor with w | w <;> rw [w] <;> simp)).1
        · rw [if_neg z, if_neg z]
      · rw [h2.2 s hsf, h0.2 s hsf]
        refine zsI_c (fun j hj => ?_)
        have e : zst B (nI q) (nI p) s j = zst B (-1) (-1) s j := by
          by_cases ej : j = q
          · subst ej
            rw [zst_eq (by omega) (by omega) (by omega)]
            by_cases z : zst B (-1) (-1) s j = true
            · rcases hor with w | w
              · rw [w, Bool.and_true]
              · rw [off j hj z] at w; cases w
            · rw [Bool.eq_false_iff.mpr z, Bool.false_and]
          · exact zst_ne (by omega) (by omega) ej
        rw [e]
        by_cases z : zst B (-1) (-1) s j = true
        · obtain ⟨k', a, b⟩ := st j hj z
          rw [if_pos z, if_pos z]
          exact ((ih k' a _ b).1 (by rw [tb_or, tb_or]; rcases hor with w | w <;> rw [w] <;> simp)).2
        · rw [if_neg z, if_neg z]
      · rw [h1.2 s hsf, h2.2 s hsf, h0.2 s hsf, zsI_add]
        refine zsI_c (fun j hj => ?_)
        by_cases ep : j = p
        · subst ep
          rw [zst_eq (by omega) (by omega) (by omega), zq, Bool.and_false, if_neg (by decide), Int32.zero_add, zst_ne (by omega) (by omega) hpq]
          by_cases z : zst B (-1) (-1) s j = true
          · obtain ⟨k', a, b⟩ := st j hj z
            rw [if_pos z, if_pos z]
            exact ((ih k' a _ b).1 (Or.inl (by rw [tb_or]; simp))).2
          · rw [if_neg z, if_neg z]
        · by_cases eq : j = q
          · subst eq
            rw [zst_eq (p := j) (by omega) (by omega) (by omega), zp, Bool.and_false, if_neg (c := false = true) (by decide), Int32.add_zero, zst_ne (by omega) (by omega) ep]
            by_cases z : zst B (-1) (-1) s j = true
            · obtain ⟨k', a, b⟩ := st j hj z
              rw [if_pos z, if_pos z]
              exact ((ih k' a _ b).1 (Or.inr (by rw [tb_or]; simp))).1
            · rw [if_neg z, if_neg z]
          · rw [zst_ne (by omega) (by omega) ep, zst_ne (by omega) (by omega) eq]
            by_cases z : zst B (-1) (-1) s j = true
            · obtain ⟨k', a, b⟩ := st j hj z
              rw [if_pos z, if_pos z, if_pos z]
              exact (ih k' a _ b).2 (by rw [tb_or, zp]; simp [ep]) (by rw [tb_or, zq]; simp [eq])
            · rw [if_neg z, if_neg z, if_neg z]; rfl
theorem zco_pq {B : Nat → Int32} {N p q : Nat} {P P1 P2 : Nat → Int32} (hN : N ≤ 8) (hp : p < N) (hq : q < N) (hpq : p ≠ q) (h0 : zPr B (-1) (-1) N P) (h1 : zPr B (nI p) (nI q) N P1) (h2 : zPr B (nI q) (nI p) N P2) : zco B (nI p) (nI q) N + zco B (nI q) (nI p) N = zco B (-1) (-1) N := by
  rw [zco_P hN h1.1 h1.2, zco_P hN h2.1 h2.2, zco_P hN h0.1 h0.2]
  exact (pq_sum hN hp hq hpq h0 h1 h2 (2 ^ N - 1) 0 (Nat.zero_add _)).2 (Nat.zero_testBit _) (Nat.zero_testBit _)
