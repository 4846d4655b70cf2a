/-! the odds: all ways one by one, against the ways counted by air -/
theorem zb_Fall (c : CT) (x : Int32) : ∀ i, zb (sFall c x) i = zb c i
  | 0 => rfl
  | i + 1 => by
    have ih := zb_Fall c x i
    show (if nI i = cAway c then zb (sFall c x) i else match zb (sFall c x) i with
      | none => some i
      | some k => if zc c k < zc c i then some i else some k) = _
    rw [ih]; rfl
theorem zso_Fall (c : CT) (x : Int32) : zso (sFall c x) = zso c := by
  show zspO (sFall c x) (zb (sFall c x) (cN c)) = zspO c (zb c (cN c))
  rw [zb_Fall]
  cases zb c (cN c) <;> rfl
theorem cool_f (e : CT) (a f : Nat) (y : Int32) (ha : a < 1000) (hf : f < 1000) : zcool 1 (sFall (sFall (sAir e (nI a)) y) (nI f)) = sFall (sAir (zcool 1 e) (nI (a - f))) (nI f) := by
  have h : mx0 (nI a - 1 * nI f) = nI (a - f) := by rw [Int32.one_mul]; exact mx0_sub ha hf
  rw [← h]; rfl
def rS : Nat → Bool → CT → Int32
  | 0, w, c => b2i ((w || zso c) = true)
  | t + 1, w, c => zsI (fun f => rS t (w || zso c) (zcool 1 (sFall c (nI f)))) 4
def rV : Nat → CT → Int32
  | 0, c => cAir c
  | t + 1, c => zsI (fun f => rV t (zcool 1 (sFall c (nI f)))) 4
def nS : Nat → CT → Bool → Nat → Nat
  | 0, e, w, a => if (w || zso (sAir e (nI a))) = true then 1 else 0
  | t + 1, e, w, a => zsm (fun f => nS t (zcool 1 e) (w || zso (sAir e (nI a))) (a - f)) 4
def nU : Nat → CT → Nat → Nat
  | 0, e, a => if zso (sAir e (nI a)) = true then 0 else 1
  | t + 1, e, a => if zso (sAir e (nI a)) = true then 0 else zsm (fun f => nU t (zcool 1 e) (a - f)) 4
def nV : Nat → Nat → Nat
  | 0, a => a
  | t + 1, a => zsm (fun f => nV t (a - f)) 4
theorem zsm_nI (q : Nat → Nat) : ∀ n, zsI (fun f => nI (q f)) n = nI (zsm q n)
  | 0 => rfl
  | n + 1 => by
    show zsI _ n + nI (q n) = nI (zsm q n + q n)
    rw [zsm_nI q n, nI_add]
theorem zsm_c {p q : Nat → Nat} : ∀ {n : Nat}, (∀ i, i < n → p i = q i) → zsm p n = zsm q n
  | 0, _ => rfl
  | n + 1, h => by
    show zsm p n + p n = zsm q n + q n
    rw [zsm_c (fun i hi => h i (by omega)), h n (by omega)]
theorem zsm_k (m : Nat) : ∀ n, zsm (fun _ => m) n = n * m
  | 0 => (Nat.zero_mul m).symm
  | n + 1 => by
    show zsm _ n + m = _
    rw [zsm_k m n, Nat.succ_mul]
theorem zsm_add (p q : Nat → Nat) : ∀ n, zsm p n + zsm q n = zsm (fun i => p i + q i) n
  | 0 => rfl
  | n + 1 => by
    show zsm p n + p n + (zsm q n + q n) = zsm _ n + (p n + q n)
    rw [← zsm_add p q n]; omega
theorem zsm_ge (q : Nat → Nat) : ∀ n i, i < n → q i ≤ zsm q n
  | n + 1, i, h => by
    show _ ≤ zsm q n + q n
    by_cases e : i = n
    · subst e; omega
    · have := zsm_ge q n i (by omega); omega
theorem rS_n : ∀ (t : Nat) (w : Bool) (e : CT) (a : Nat) (y : Int32), a ≤ 40 → rS t w (sFall (sAir e (nI a)) y) = nI (nS t e w a)
  | 0, w, e, a, y, _ => by
    show b2i ((w || zso (sFall (sAir e (nI a)) y)) = true) = nI (if _ then 1 else 0)
    rw [zso_Fall]
    unfold b2i
    by_cases h : (w || zso (sAir e (nI a))) = true
    · rw [if_pos h, if_pos h]; rfl
    · rw [if_neg h, if_neg h]; rfl
  | t + 1, w, e, a, y, ha => by
    show zsI (fun f => rS t (w || zso (sFall (sAir e (nI a)) y)) (zcool 1 (sFall (sFall (sAir e (nI a)) y) (nI f)))) 4 = nI (zsm _ 4)
    rw [zso_Fall]
    refine (zsI_c (fun f hf => ?_)).trans (zsm_nI _ _)
    rw [cool_f e a f y (by omega) (by omega)]
    exact rS_n t _ _ _ _ (by omega)
theorem rV_n : ∀ (t : Nat) (e : CT) (a : Nat) (y : Int32), a ≤ 40 → rV t (sFall (sAir e (nI a)) y) = nI (nV t a)
  | 0, e, a, y, _ => rfl
  | t + 1, e, a, y, ha => by
    show zsI (fun f => rV t (zcool 1 (sFall (sFall (sAir e (nI a)) y) (nI f)))) 4 = nI (zsm _ 4)
    refine (zsI_c (fun f hf => ?_)).trans (zsm_nI _ _)
    rw [cool_f e a f y (by omega) (by omega)]
    exact rV_n t _ _ _ (by omega)
theorem nS_t : ∀ (t : Nat) (e : CT) (a : Nat), nS t e true a = 4 ^ t
  | 0, e, a => if_pos (Bool.true_or _)
  | t + 1, e, a => by
    show zsm (fun f => nS t (zcool 1 e) (true || _) (a - f)) 4 = _
    rw [Bool.true_or, zsm_c (fun f _ => nS_t t (zcool 1 e) (a - f)), zsm_k, Nat.pow_succ, Nat.mul_comm]
theorem nS_U : ∀ (t : Nat) (e : CT) (a : Nat), nS t e false a + nU t e a = 4 ^ t
  | 0, e, a => by
    show (if (false || zso (sAir e (nI a))) = true then 1 else 0) + (if zso (sAir e (nI a)) = true then 0 else 1) = 1
    rw [Bool.false_or]
    by_cases h : zso (sAir e (nI a)) = true
    · rw [if_pos h, if_pos h]
    · rw [if_neg h, if_neg h]
  | t + 1, e, a => by
    show zsm (fun f => nS t (zcool 1 e) (false || zso (sAir e (nI a))) (a - f)) 4 + (if zso (sAir e (nI a)) = true then 0 else zsm (fun f => nU t (zcool 1 e) (a - f)) 4) = _
    rw [Bool.false_or]
    by_cases h : zso (sAir e (nI a)) = true
    · rw [if_pos h, h, zsm_c (fun f _ => nS_t t (zcool 1 e) (a - f)), zsm_k, Nat.pow_succ, Nat.mul_comm]; rfl
    · rw [if_neg h, Bool.eq_false_iff.mpr h, zsm_add, zsm_c (fun f _ => nS_U t (zcool 1 e) (a - f)), zsm_k, Nat.pow_succ, Nat.mul_comm]
theorem zsm_up (w g : Nat → Nat) (i x : Nat) : ∀ n, i < n → zsm (fun j => va_up w i x j * g j) n + w i * g i = zsm (fun j => w j * g j) n + x * g i
  | n + 1, h => by
    show zsm _ n + va_up w i x n * g n + w i * g i = zsm _ n + w n * g n + x * g i
    by_cases e : n = i
    · subst e
      rw [az_up_self, zsm_c (q := fun j => w j * g j) (fun j hj => by rw [az_up_ne (by omega)])]
      omega
    · have ih := zsm_up w g i x n (by omega)
      rw [az_up_ne e]
      omega
theorem zfi_s (w g : Nat → Nat) (a m : Nat) (ha : a < 41) : ∀ f, zsm (fun j => zfi w a m f j * g j) 41 + w a * g a = zsm (fun j => w j * g j) 41 + m * zsm (fun i => g (a - i)) f
  | 0 => by
    have h := zsm_up w g a 0 41 ha
    rw [Nat.zero_mul] at h
    exact h
  | f + 1 => by
    have ih := zfi_s w g a m ha f
    have h := zsm_up (zfi w a m f) g (a - f) (zfi w a m f (a - f) + m) 41 (by omega)
    rw [Nat.add_mul] at h
    show zsm (fun j => va_up (zfi w a m f) (a - f) (zfi w a m f (a - f) + m) j * g j) 41 + w a * g a = _ + m * (zsm (fun i => g (a - i)) f + g (a - f))
    rw [Nat.mul_add]
    omega
theorem zfi_ne {w : Nat → Nat} {a m j : Nat} (h : a < j) : ∀ f, zfi w a m f j = w j
  | 0 => az_up_ne (by omega)
  | f + 1 => (az_up_ne (by omega)).trans (zfi_ne h f)
theorem zfs_ge (w : Nat → Nat) : ∀ a j, a ≤ j → zfs w a j = w j
  | 0, _, _ => rfl
  | a + 1, j, h => (zfi_ne (by omega) 4).trans (zfs_ge w a j (by omega))
theorem zfs_s (w g : Nat → Nat) : ∀ a, a ≤ 41 → zsm (fun j => zfs w a j * g j) 41 + zsm (fun j => w j * g j) a = zsm (fun j => w j * g j) 41 + zsm (fun j => w j * zsm (fun i => g (j - i)) 4) a
  | 0, _ => rfl
  | a + 1, h => by
    have ih := zfs_s w g a (by omega)
    have h2 := zfi_s (zfs w a) g a (zfs w a a) (by omega) 4
    rw [zfs_ge w a a (Nat.le_refl _)] at h2
    show zsm (fun j => zfi (zfs w a) a (zfs w a a) 4 j * g j) 41 + (zsm (fun j => w j * g j) a + w a * g a) = zsm (fun j => w j * g j) 41 + (zsm (fun j => w j * zsm (fun i => g (j - i)) 4) a + w a * zsm (fun i => g (a - i)) 4)
    rw [zfs_ge w a a (Nat.le_refl _)]
    omega
theorem zfo_s (w g : Nat → Nat) : zsm (fun j => zfo w j * g j) 41 = zsm (fun j => w j * zsm (fun i => g (j - i)) 4) 41 := by
  have h := zfs_s w g 41 (Nat.le_refl _)
  unfold zfo
  omega
def nF : Nat → CT → (Nat → Nat) → Nat
  | 0, e, q => zsm (zdr e q 41) 41
  | t + 1, e, q => nF t (zcool 1 e) (zfo (zdr e q 41))
theorem nF_U : ∀ (t : Nat) (e : CT) (q : Nat → Nat), nF t e q = zsm (fun j => q j * nU t e j) 41
  | 0, e, q => zsm_c (fun j hj => by
    show (if j < 41 ∧ zso (sAir e (nI j)) = true then 0 else q j) = q j * (if zso (sAir e (nI j)) = true then 0 else 1)
    by_cases h : zso (sAir e (nI j)) = true
    · rw [if_pos ⟨hj, h⟩, if_pos h, Nat.mul_zero]
    · rw [if_neg (fun z => h z.2), if_neg h, Nat.mul_one])
  | t + 1, e, q => by
    show nF t (zcool 1 e) (zfo (zdr e q 41)) = _
    rw [nF_U t, zfo_s]
    refine zsm_c (fun j hj => ?_)
    show (if j < 41 ∧ zso (sAir e (nI j)) = true then 0 else q j) * _ = q j * (if zso (sAir e (nI j)) = true then 0 else zsm (fun f => nU t (zcool 1 e) (j - f)) 4)
    by_cases h : zso (sAir e (nI j)) = true
    · rw [if_pos ⟨hj, h⟩, if_pos h, Nat.mul_zero, Nat.zero_mul]
    · rw [if_neg (fun z => h z.2), if_neg h]
def zpq (c : CT) (a : Nat) : Nat → Nat → Nat
  | 0 => zW a 0
  | d + 1 => zfo (zQ c a d)
theorem zpq_Q (c : CT) (a d : Nat) : zQ c a d = zdr (zdays d c) (zpq c a d) 41 := by cases d <;> rfl
theorem zQ_F (c : CT) (a : Nat) : ∀ t d, zsm (zQ c a (d + t)) 41 = nF t (zdays d c) (zpq c a d)
  | 0, d => by
    show zsm (zQ c a d) 41 = zsm (zdr (zdays d c) (zpq c a d) 41) 41
    rw [← zpq_Q]
  | t + 1, d => by
    rw [show d + (t + 1) = d + 1 + t by omega, zQ_F c a t (d + 1)]
    show nF t (zdays (d + 1) c) (zfo (zQ c a d)) = nF t (zcool 1 (zdays d c)) (zfo (zdr (zdays d c) (zpq c a d) 41))
    rw [← zpq_Q]; rfl
theorem zsm_dl (g : Nat → Nat) {a : Nat} (ha : a < 41) : zsm (fun j => va_up (fun _ => 0) a 1 j * g j) 41 = g a := by
  have h := zsm_up (fun _ => 0) g a 1 41 ha
  rw [zsm_c (p := fun j => (fun _ => 0) j * g j) (q := fun _ => 0) (fun j _ => Nat.zero_mul _), zsm_k] at h
  omega
theorem zQ_U (c : CT) {a : Nat} (ha : a ≤ 40) (t : Nat) : zsm (zQ c a t) 41 = nU t c a := by
  have h := zQ_F c a t 0
  rw [Nat.zero_add] at h
  rw [h, nF_U]
  exact zsm_dl _ (by omega)
theorem zW_g (a : Nat) (g : Nat → Nat → Nat) (hg : ∀ t j, g (t + 1) j = zsm (fun f => g t (j - f)) 4) : ∀ t d, zsm (fun j => zW a (d + t) j * g 0 j) 41 = zsm (fun j => zW a d j * g t j) 41
  | 0, d => rfl
  | t + 1, d => by
    rw [show d + (t + 1) = d + 1 + t by omega, zW_g a g hg t (d + 1)]
    show zsm (fun j => zfo (zW a d) j * g t j) 41 = _
    rw [zfo_s]
    exact zsm_c (fun j _ => by rw [hg t j])
theorem zW_V {a : Nat} (ha : a ≤ 40) (t : Nat) : zsm (fun j => zW a t j * j) 41 = nV t a := by
  have h := zW_g a nV (fun _ _ => rfl) t 0
  rw [Nat.zero_add] at h
  exact h.trans (zsm_dl _ (by omega))
theorem zW_4 {a : Nat} (ha : a ≤ 40) (t : Nat) : zsm (zW a t) 41 = 4 ^ t := by
  have h := zW_g a (fun t _ => 4 ^ t) (fun t j => by show 4 ^ (t + 1) = _; rw [zsm_k, Nat.pow_succ, Nat.mul_comm]) t 0
  rw [Nat.zero_add] at h
  have h2 := h.trans (zsm_dl _ (by omega))
  rw [← h2]
  exact zsm_c (fun j _ => (Nat.mul_one _).symm)
theorem nV_le : ∀ t a, a ≤ 40 → nV t a ≤ 40 * 4 ^ t
  | 0, a, h => by show a ≤ _; omega
  | t + 1, a, h => by
    show 0 + nV t (a - 0) + nV t (a - 1) + nV t (a - 2) + nV t (a - 3) ≤ _
    have h0 := nV_le t (a - 0) (by omega)
    have h1 := nV_le t (a - 1) (by omega)
    have h2 := nV_le t (a - 2) (by omega)
    have h3 := nV_le t (a - 3) (by omega)
    rw [Nat.pow_succ]; omega
theorem zsmL_n {q : Nat → Nat} : ∀ {n : Nat}, n < 2 ^ 31 → (∀ i, i < n → q i < 2 ^ 31) → zsmL q n = lN (zsm (fun j => q j * j) n)
  | 0, _, _ => rfl
  | n + 1, h, hq => by
    show zsmL q n + (nI n).toInt64 * (nI (q n)).toInt64 = lN (zsm _ n + q n * n)
    rw [zsmL_n (by omega) (fun i hi => hq i (by omega)), nI_l (by omega), nI_l (hq n (by omega)), lN_mul, lN_add, Nat.mul_comm n]
