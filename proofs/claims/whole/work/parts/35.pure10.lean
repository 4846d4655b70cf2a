/-! Tape, pure -/
def lyP (o : Nat) : List az_Sh := [(5, 0, [some (some (o + 1)), none, none, none, none]), (100, 250, [])]
def zTp (sg : Nat → Nat → Int32) (o : Nat) (t s e : Int32) : Nat → Nat → Int32 := az_w (az_w (az_w sg o 2 t) o 3 s) o 4 e
theorem zTp_4 (sg : Nat → Nat → Int32) (o : Nat) (t s e : Int32) : zTp sg o t s e o 4 = e := az_w_at _ _ _ _
theorem zTp_3 (sg : Nat → Nat → Int32) (o : Nat) (t s e : Int32) : zTp sg o t s e o 3 = s := by unfold zTp; rw [az_w_nj (by omega), az_w_at]
theorem zTp_2 (sg : Nat → Nat → Int32) (o : Nat) (t s e : Int32) : zTp sg o t s e o 2 = t := by unfold zTp; rw [az_w_nj (by omega), az_w_nj (by omega), az_w_at]
theorem zTp_1 (sg : Nat → Nat → Int32) (o : Nat) (t s e : Int32) : zTp sg o t s e o 1 = sg o 1 := by unfold zTp; rw [az_w_nj (by omega), az_w_nj (by omega), az_w_nj (by omega)]
theorem zTp_ne {sg : Nat → Nat → Int32} {o k : Nat} {t s e : Int32} (h : k ≠ o) : zTp sg o t s e k = sg k := by unfold zTp; rw [az_w_ne h, az_w_ne h, az_w_ne h]
theorem az_w_sw {s : Nat → Nat → Int32} {k i j : Nat} {x y : Int32} (h : i ≠ j) : az_w (az_w s k i x) k j y = az_w (az_w s k j y) k i x := by
  unfold az_w
  rw [az_up_up, az_up_up, az_up_self, az_up_self, az_up_sw _ h]
theorem zTp_w4 {sg : Nat → Nat → Int32} {o : Nat} {t s e x : Int32} : az_w (zTp sg o t s e) o 4 x = zTp sg o t s x := az_w_w _ _ _ _ _
theorem zTp_w3 {sg : Nat → Nat → Int32} {o : Nat} {t s e x : Int32} : az_w (zTp sg o t s e) o 3 x = zTp sg o t x e := by unfold zTp; rw [az_w_sw (by omega), az_w_w]
theorem zTp_w2 {sg : Nat → Nat → Int32} {o : Nat} {t s e x : Int32} : az_w (zTp sg o t s e) o 2 x = zTp sg o x s e := by unfold zTp; rw [az_w_sw (by omega), az_w_sw (i := 3) (by omega), az_w_w]
theorem az_w_id (s : Nat → Nat → Int32) (k j : Nat) : az_w s k j (s k j) = s := by unfold az_w; rw [az_up_id, az_up_id]
theorem zTp_0 (sg : Nat → Nat → Int32) (o : Nat) : sg = zTp sg o (sg o 2) (sg o 3) (sg o 4) := by
  unfold zTp
  rw [az_w_id, az_w_id, az_w_id]
theorem zTp_put {sg : Nat → Nat → Int32} {o n0 : Nat} {t s e : Int32} {c : CT} (h : o < n0 ∨ n0 + 6 ≤ o) : zTp (zput sg n0 c) o t s e = zput (zTp sg o t s e) n0 c := by
  unfold zTp
  rw [zw_out h, zw_out h, zw_out h]
def zrun (p : Nat → Bool) (m e : Nat) : Nat := e + fa_first (fun k => !(p (e + k))) (m - e)
theorem zrun_facts (p : Nat → Bool) {m e : Nat} (h : e ≤ m) : e ≤ zrun p m e ∧ zrun p m e ≤ m ∧ (∀ k, e ≤ k → k < zrun p m e → p k = true) ∧ (zrun p m e < m → p (zrun p m e) = false) := by
  have hl := fa_first_le (fun k => !(p (e + k))) (m - e)
  refine ⟨Nat.le_add_right _ _, by unfold zrun; omega, fun k h1 h2 => ?_, fun h2 => ?_⟩
  · have q := fa_first_no (fun k => !(p (e + k))) (m - e) (k - e) (by unfold zrun at h2; omega)
    simp only [show e + (k - e) = k by omega] at q
    cases hp : p k
    · rw [hp] at q; cases q
    · rfl
  · have q := fa_first_yes (fun k => !(p (e + k))) (m - e) (by unfold zrun at h2; omega)
    unfold zrun
    cases hp : p (e + fa_first (fun k => !(p (e + k))) (m - e))
    · rfl
    · simp only [hp] at q; cases q
def zcr (T : Nat → Int32) (lo hi : Int32) (k : Nat) : Bool := decide (lo ≤ T k) && decide (T k ≤ hi)
theorem zcr_t {T : Nat → Int32} {lo hi : Int32} {k : Nat} (h1 : lo ≤ T k) (h2 : T k ≤ hi) : zcr T lo hi k = true := by unfold zcr; rw [decide_eq_true h1, decide_eq_true h2]; rfl
theorem zcr_1 {T : Nat → Int32} {lo hi : Int32} {k : Nat} (h : zcr T lo hi k = true) : lo ≤ T k := of_decide_eq_true (Bool.and_eq_true_iff.mp h).1
theorem zcr_2 {T : Nat → Int32} {lo hi : Int32} {k : Nat} (h : zcr T lo hi k = true) : T k ≤ hi := of_decide_eq_true (Bool.and_eq_true_iff.mp h).2
def zspc (T : Nat → Int32) (k : Nat) : Bool := decide (T k = 32)
/-- the token that comes: what, start, end -/
def zss (T : Nat → Int32) (m e : Nat) : Nat := zrun (zspc T) m e
def zsl (T : Nat → Int32) (m e : Nat) : Nat := zrun (zcr T 97 122) m (zss T m e)
def zsd (T : Nat → Int32) (m e : Nat) : Nat := zrun (zcr T 48 57) m (zss T m e)
def zst3 (T : Nat → Int32) (m e : Nat) : Int32 × Nat :=
  if m ≤ zss T m e then (0, zss T m e)
  else if zss T m e < zsl T m e then (1, zsl T m e)
  else if zss T m e < zsd T m e then (2, zsd T m e)
  else ((if T (zss T m e) = 59 then 3 else 4), zss T m e + 1)
theorem zst3_0 {T : Nat → Int32} {m e : Nat} (h : m ≤ zss T m e) : zst3 T m e = (0, zss T m e) := if_pos h
theorem zst3_1 {T : Nat → Int32} {m e : Nat} (h : ¬ m ≤ zss T m e) (h1 : zss T m e < zsl T m e) : zst3 T m e = (1, zsl T m e) := (if_neg h).trans (if_pos h1)
theorem zst3_2 {T : Nat → Int32} {m e : Nat} (h : ¬ m ≤ zss T m e) (h1 : ¬ zss T m e < zsl T m e) (h2 : zss T m e < zsd T m e) : zst3 T m e = (2, zsd T m e) := (if_neg h).trans ((if_neg h1).trans (if_pos h2))
theorem zst3_3 {T : Nat → Int32} {m e : Nat} (h : ¬ m ≤ zss T m e) (h1 : ¬ zss T m e < zsl T m e) (h2 : ¬ zss T m e < zsd T m e) : zst3 T m e = ((if T (zss T m e) = 59 then 3 else 4), zss T m e + 1) := (if_neg h).trans ((if_neg h1).trans (if_neg h2))
theorem zst3_le {T : Nat → Int32} {m e : Nat} (h : e ≤ m) : e ≤ zss T m e ∧ zss T m e ≤ (zst3 T m e).2 ∧ (zst3 T m e).2 ≤ m := by
  have h1 := zrun_facts (zspc T) h
  have h2 := zrun_facts (zcr T 97 122) (e := zss T m e) h1.2.1
  have h3 := zrun_facts (zcr T 48 57) (e := zss T m e) h1.2.1
  refine ⟨h1.1, ?_⟩
  by_cases q1 : m ≤ zss T m e
  · rw [zst3_0 q1]; exact ⟨Nat.le_refl _, h1.2.1⟩
  · by_cases q2 : zss T m e < zsl T m e
    · rw [zst3_1 q1 q2]; exact ⟨h2.1, h2.2.1⟩
    · by_cases q3 : zss T m e < zsd T m e
      · rw [zst3_2 q1 q2 q3]; exact ⟨h3.1, h3.2.1⟩
      · rw [zst3_3 q1 q2 q3]; exact ⟨Nat.le_succ _, by omega⟩
def zvl (T : Nat → Int32) (s : Nat) : Nat → Int32
  | 0 => 0
  | n + 1 => 10 * zvl T s n + T (s + n) - 48
def znum (T : Nat → Int32) (m e : Nat) (most : Int32) : Int32 :=
  if (zst3 T m e).1 = 2 ∧ (zst3 T m e).2 - zss T m e ≤ 3 then (if zvl T (zss T m e) ((zst3 T m e).2 - zss T m e) ≤ most then zvl T (zss T m e) ((zst3 T m e).2 - zss T m e) else -1) else -1
theorem nI_sub {a b : Nat} (h : b ≤ a) (ha : a < 2 ^ 31) : nI a - nI b = nI (a - b) := by
  refine Int32.toInt_inj.mp ?_
  rw [Int32.toInt_sub, nI_toInt ha, nI_toInt (by omega), nI_toInt (by omega)]
  rw [Int.bmod_eq_of_le (by omega) (by omega)]
  omega
