theorem mx0_nI {m : Nat} (h : m < 2 ^ 31) : mx0 (nI m) = nI m := by
  unfold mx0
  by_cases q : 0 < nI m
  · rw [if_pos q]
  · rw [if_neg q]
    have q2 : ¬ 0 < m := fun q3 => q (nI_lt (a := 0) q3 h)
    have q4 : m = 0 := by omega
    rw [q4]; rfl
theorem mx0_sub2 {i j : Nat} (hi : i < 100000) (hj : j < 100000) : mx0 (nI i - nI j) = nI (i - j) := by
  have h1 : (nI i - nI j).toInt = (i : Int) - j := by
    rw [Int32.toInt_sub, nI_toInt (by omega), nI_toInt (by omega)]
    exact Int.bmod_eq_of_le (by omega) (by omega)
  refine Int32.toInt_inj.mp ?_
  rw [mx0_toInt, h1, nI_toInt (by omega)]
  omega
/-- what so many days do, by numbers -/
theorem zcool_form {c : CT} {a b : Nat} (h : cRng c) (ha : cAir c = nI a) (hb : cFall c = nI b) (ha4 : a ≤ 40) (hb5 : b ≤ 5) {k : Nat} (hk : k ≤ 1000) : zcool (nI k) c = cAF c (nI (a - k * b)) (fun j => if j < cN c then nI ((cFe c j).toNatClampNeg - k) else cFe c j) := by
  have hkb : k * b ≤ 1000 * 5 := Nat.mul_le_mul hk hb5
  unfold zcool
  rw [ha, hb, nI_mul, mx0_sub2 (by omega) (by omega)]
  congr 1
  funext j
  by_cases hj : j < cN c
  · rw [if_pos hj, if_pos hj]
    obtain ⟨f, hf, e⟩ := iR_nI (m := 40) (h.2.2.2 j hj).2.2.1
    rw [e, nI_clamp (by omega), mx0_sub2 (by omega) (by omega)]
  · rw [if_neg hj, if_neg hj]
theorem zdays_form {c : CT} {a b : Nat} (h : cRng c) (ha : cAir c = nI a) (hb : cFall c = nI b) (ha4 : a ≤ 40) (hb5 : b ≤ 5) : ∀ {k : Nat}, k ≤ 1000 → zdays k c = cAF c (nI (a - k * b)) (fun j => if j < cN c then nI ((cFe c j).toNatClampNeg - k) else cFe c j)
  | 0, _ => by
    show c = _
    have e : (fun j => if j < cN c then nI ((cFe c j).toNatClampNeg - 0) else cFe c j) = cFe c := by
      funext j
      by_cases hj : j < cN c
      · rw [if_pos hj]
        obtain ⟨f, hf, e⟩ := iR_nI (m := 40) (h.2.2.2 j hj).2.2.1
        rw [e, nI_clamp (by omega)]; rfl
      · rw [if_neg hj]
    rw [e, Nat.zero_mul, Nat.sub_zero, ← ha]
    rfl
  | k + 1, hk => by
    have ih := zdays_form h ha hb ha4 hb5 (k := k) (by omega)
    have hR : cRng (zdays k c) := zdays_Rng h k
    show zcool 1 (zdays k c) = _
    have hkb : k * b ≤ 1000 * 5 := Nat.mul_le_mul (by omega) hb5
    have e1 := zcool_form (c := zdays k c) (a := a - k * b) (b := b) hR (by rw [ih]; rfl) (by rw [ih]; exact hb) (by omega) hb5 (k := 1) (by omega)
    rw [show (1 : Int32) = nI 1 from rfl, e1, ih]
    have e2 : a - k * b - 1 * b = a - (k + 1) * b := by rw [Nat.add_mul, Nat.sub_sub]
    show cAF c (nI (a - k * b - 1 * b)) _ = _
    rw [e2]
    congr 1
    funext j
    show (if j < cN c then nI ((if j < cN c then nI ((cFe c j).toNatClampNeg - k) else cFe c j).toNatClampNeg - 1) else (if j < cN c then nI ((cFe c j).toNatClampNeg - k) else cFe c j)) = _
    by_cases hj : j < cN c
    · rw [if_pos hj, if_pos hj, if_pos hj]
      obtain ⟨f, hf, e⟩ := iR_nI (m := 40) (h.2.2.2 j hj).2.2.1
      rw [e, nI_clamp (n := f) (by omega), nI_clamp (n := f - k) (by omega), show f - k - 1 = f - (k + 1) by omega]
    · rw [if_neg hj, if_neg hj, if_neg hj]
theorem zcool_days {c : CT} (h : cRng c) {k : Nat} (hk : k ≤ 1000) : zcool (nI k) c = zdays k c := by
  obtain ⟨a, ha, ea⟩ := iR_nI (m := 40) h.2.1
  obtain ⟨b, hb, eb⟩ := iR_nI (m := 5) h.2.2.1
  rw [zcool_form h ea eb ha hb hk, zdays_form h ea eb ha hb hk]
theorem q_tf_k (σ : SGM) (s n : Int32) : ∃ k, k < 5 ∧ (q_tf σ s n = 0 ∨ -2 - q_tf σ s n = nI k) := by
  unfold q_tf
  split
  · exact q_rf_k σ s (2 * n)
  · exact ⟨0, by omega, Or.inr (by decide)⟩
theorem q_tf_0 {σ : SGM} {s n : Int32} (h : q_tf σ s n = 0) : (0 ≤ n ∧ n ≤ 20) ∧ q_rf σ s (2 * n) = 0 := by
  unfold q_tf at h
  by_cases q : 0 ≤ n ∧ n ≤ 20
  · rw [if_pos q] at h; exact ⟨q, h⟩
  · rw [if_neg q] at h; exact absurd h (by decide)
theorem q_bf_k (σ : SGM) (s n : Int32) : ∃ k, k < 5 ∧ (q_bf σ s n = 0 ∨ -2 - q_bf σ s n = nI k) := by
  unfold q_bf
  split
  · split
    · exact ⟨0, by omega, Or.inl rfl⟩
    · exact ⟨3, by omega, Or.inr (by decide)⟩
  · exact q_tf_k σ s n
theorem q_bf_0 {σ : SGM} {s n : Int32} (h : q_bf σ s n = 0) : q_tf σ s n = 0 ∧ q_cl σ s n = none := by
  unfold q_bf at h
  by_cases q : q_tf σ s n = 0
  · rw [if_pos q] at h
    by_cases q2 : q_cl σ s n = none
    · exact ⟨q, q2⟩
    · rw [if_neg q2] at h; exact absurd h (by decide)
  · rw [if_neg q] at h; exact absurd h q
section ZX
variable {g : GGM} {sg : Nat → Nat → Int32} {la : Nat → Nat → Int64} {σ : SGM}
theorem zairs_x (hK : KX g sg la σ) {s : Nat} (hs : s < 8) : zairs sg la (44 + 2 * s) = q_airsB σ (nI s) := by
  funext k
  unfold zairs q_airsB q_r1 xf
  rw [zat_x hK hs, nI_clamp (by omega)]
theorem zwhe_x (hK : KX g sg la σ) {s : Nat} (hs : s < 8) : zwhe sg la (44 + 2 * s) = q_wheB σ (nI s) := by
  funext k
  unfold zwhe q_wheB q_r2 xf
  rw [zat_x hK hs, nI_clamp (by omega)]
theorem zaP_x (hK : KX g sg la σ) {s m p v : Nat} (hs : s < 8) : zaP sg la (44 + 2 * s) (xN σ) m p v = q_aP σ (nI s) m p v := by
  unfold zaP q_aP q_r1 q_r2 xf
  rw [zat_x hK hs, nI_clamp (by omega)]
theorem zaK_x (hK : KX g sg la σ) {s m p v : Nat} (hs : s < 8) : zaK sg la (44 + 2 * s) (xN σ) m p v = q_aK σ (nI s) m p v := by
  unfold zaK q_aK q_r1 q_r2 xf
  rw [zat_x hK hs, nI_clamp (by omega)]
theorem zwrg_x (hK : KX g sg la σ) {s m : Nat} (hs : s < 8) : zwrg sg la (44 + 2 * s) (xN σ) m = zfind (q_juP σ (nI s)) m := by
  unfold zwrg q_juP xf
  rw [zat_x hK hs, nI_clamp (by omega)]
theorem q_r1_x (hK : KX g sg la σ) {s : Nat} (hs : s < 8) : (fun k => zat sg la (44 + 2 * s) (2 * nI k)) = q_r1 σ (nI s) := by
  funext k
  unfold q_r1 xf
  rw [zat_x hK hs, nI_clamp (by omega)]
theorem q_r2_x (hK : KX g sg la σ) {s : Nat} (hs : s < 8) : (fun k => zat sg la (44 + 2 * s) (2 * nI k + 1)) = q_r2 σ (nI s) := by
  funext k
  unfold q_r2 xf
  rw [zat_x hK hs, nI_clamp (by omega)]
theorem KX.hz (hK : KX g sg la σ) {s : Nat} (hs : s < 8) : ∃ z, sg (44 + 2 * s) 2 = nI z ∧ z ≤ 40 := ⟨_, (hK.sh hs).2.1, (hK.fw hs).2.1⟩
end ZX
