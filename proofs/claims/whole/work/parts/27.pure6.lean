/-! the rest of Foresight, pure -/
theorem az_w_w (s : Nat → Nat → Int32) (k j : Nat) (x y : Int32) : az_w (az_w s k j x) k j y = az_w s k j y := by
  unfold az_w
  rw [az_up_up, az_up_self, az_up_up]
theorem sh1 {n : Nat} (h : n ≤ 8) : (1 : Int32) <<< (nI n &&& 31) = nI (2 ^ n) := by
  have hk : n = 0 ∨ n = 1 ∨ n = 2 ∨ n = 3 ∨ n = 4 ∨ n = 5 ∨ n = 6 ∨ n = 7 ∨ n = 8 := by omega
  rcases hk with rfl | rfl | rfl | rfl | rfl | rfl | rfl | rfl | rfl <;> decide
theorem p2_8 {n : Nat} (h : n ≤ 8) : 2 ^ n ≤ 256 := Nat.pow_le_pow_right (n := 2) (by omega) h
/-- least feed: how much for one -/
def zlm (c : CT) (t p : Nat) : Nat := fa_first (fun k => zno (zmore c p (nI (k + 1))) t) 40 + 1
def zlf (c : CT) (t : Nat) : Nat → Nat × Option Nat
  | 0 => (41, none)
  | i + 1 => if zlm c t i < (zlf c t i).1 then (zlm c t i, some i) else zlf c t i
theorem zlf_le (c : CT) (t : Nat) : ∀ i, 1 ≤ (zlf c t i).1 ∧ (zlf c t i).1 ≤ 41
  | 0 => ⟨(by decide : 1 ≤ 41), Nat.le_refl 41⟩
  | i + 1 => by
    unfold zlf
    split
    · exact ⟨Nat.le_add_left _ _, by have := (zlf_le c t i).2; omega⟩
    · exact zlf_le c t i
theorem zlf_yes {c : CT} {t i j : Nat} (h1 : 1 ≤ j) (hj : j < (zlf c t i).1) (hp : zno (zmore c i (nI j)) t = true) (hn : ∀ k, 1 ≤ k → k < j → zno (zmore c i (nI k)) t = false) : zlf c t (i + 1) = (j, some i) := by
  have hl := (zlf_le c t i).2
  have he : zlm c t i = j := by
    unfold zlm
    rw [fa_first_eq (i := j - 1) (by omega) (by rw [show j - 1 + 1 = j by omega]; exact hp) (fun k hk => hn (k + 1) (by omega) (by omega))]
    omega
  show (if zlm c t i < (zlf c t i).1 then (zlm c t i, some i) else zlf c t i) = _
  rw [he, if_pos hj]
theorem zlf_no {c : CT} {t i : Nat} (hn : ∀ k, 1 ≤ k → k < (zlf c t i).1 → zno (zmore c i (nI k)) t = false) : zlf c t (i + 1) = zlf c t i := by
  have hl := (zlf_le c t i).2
  show (if zlm c t i < (zlf c t i).1 then (zlm c t i, some i) else zlf c t i) = _
  refine if_neg (fun hq => ?_)
  have hlt : fa_first (fun k => zno (zmore c i (nI (k + 1))) t) 40 < 40 := by unfold zlm at hq; omega
  have h1 := fa_first_yes _ _ hlt
  have h2 := hn _ (Nat.le_add_left 1 _) hq
  unfold zlm at h2
  rw [h1] at h2
  cases h2
def zleast (c : CT) (t : Nat) : Int32 × Int32 := if zno c t = true then (0, -1) else ((if (zlf c t (cN c)).2 = none then -1 else nI (zlf c t (cN c)).1), oI (zlf c t (cN c)).2)
theorem zlf_lt {c : CT} {t : Nat} : ∀ {i k : Nat}, (zlf c t i).2 = some k → k < i
  | 0, k, h => by cases h
  | i + 1, k, h => by
    unfold zlf at h
    split at h
    · cases h; omega
    · have := zlf_lt h; omega
theorem oI_n {q : Option Nat} (h : ∀ k, q = some k → k < 2 ^ 31) : oI q = -1 ↔ q = none := by
  cases q with
  | none => exact ⟨fun _ => rfl, fun _ => rfl⟩
  | some k => exact ⟨fun e => absurd e (nI_n1 (h k rfl)), fun e => by cases e⟩
/-- fewest warmed -/
def zG1 (w : Int32) (j : Nat) : Bool := decide ((w >>> (nI j &&& 31)) &&& 1 = 1)
def zfw (c : CT) (t : Nat) : Nat → Option Nat × Int32
  | 0 => (none, 9)
  | i + 1 => if zbc (nI i) < (zfw c t i).2 ∧ zwhen (zmf c (zG1 (nI i)) 20 (cN c)) t = t then (some i, zbc (nI i)) else zfw c t i
theorem zfw_y {c : CT} {t i : Nat} (h1 : zbc (nI i) < (zfw c t i).2) (h2 : zwhen (zmf c (zG1 (nI i)) 20 (cN c)) t = t) : zfw c t (i + 1) = (some i, zbc (nI i)) := if_pos ⟨h1, h2⟩
theorem zfw_n1 {c : CT} {t i : Nat} (h1 : ¬ zbc (nI i) < (zfw c t i).2) : zfw c t (i + 1) = zfw c t i := if_neg (fun q => h1 q.1)
theorem zfw_n2 {c : CT} {t i : Nat} (h1 : ¬ zwhen (zmf c (zG1 (nI i)) 20 (cN c)) t = t) : zfw c t (i + 1) = zfw c t i := if_neg (fun q => h1 q.2)
theorem iR_20 : iR 20 40 := by unfold iR; decide
/-- quiet -/
def zsF (c : CT) (p : Nat) (f : Int32) : Bool := zsp (sFe c (va_up (cFe c) p f)) p
def zqk (c : CT) (p : Nat) : Nat := fa_first (fun k => !(zsF c p (cFe c p + nI k)) || decide (40 ≤ cFe c p + nI k)) 41
theorem zqk_lt {c : CT} {p k : Nat} (h : k < zqk c p) : zsF c p (cFe c p + nI k) = true ∧ ¬ 40 ≤ cFe c p + nI k := by
  have q := fa_first_no _ _ k h
  simp only [Bool.or_eq_false_iff] at q
  exact ⟨by have := q.1; cases hz : zsF c p (cFe c p + nI k) <;> simp_all, of_decide_eq_false q.2⟩
theorem zqk_end {c : CT} {p : Nat} (hf : iR (cFe c p) 40) : zsF c p (cFe c p + nI (zqk c p)) = true → 40 ≤ cFe c p + nI (zqk c p) := by
  intro hs
  have hlt : zqk c p < 41 := by
    rcases Nat.lt_or_ge (zqk c p) 41 with q | q
    · exact q
    · exfalso
      have h := (zqk_lt (c := c) (p := p) (k := 40) (by omega)).2
      refine h ?_
      have h2 := (iR_add (y := nI 40) hf (m := 40) (k := 40) (nI_le40 (by omega)) (by omega)).2
      have h3 := hf.1
      refine Int32.le_iff_toInt_le.mpr ?_
      rw [h2, nI_toInt (by omega), show (40 : Int32).toInt = 40 by decide]
      omega
  have h1 := fa_first_yes _ _ hlt
  change (!(zsF c p (cFe c p + nI (zqk c p))) || decide (40 ≤ cFe c p + nI (zqk c p))) = true at h1
  rw [hs] at h1
  simp only [Bool.not_true, Bool.false_or] at h1
  exact of_decide_eq_true h1
def zqg (c : CT) (i k : Nat) : CT := sFe c (fun j => if j < i then cFe c j + nI (zqk c j) else if j = i then cFe c i + nI k else cFe c j)
theorem zqg_0 (c : CT) : zqg c 0 0 = c := by
  unfold zqg
  rw [show (fun j => if j < 0 then cFe c j + nI (zqk c j) else if j = 0 then cFe c 0 + nI 0 else cFe c j) = cFe c from funext fun j => by
    rw [if_neg (by omega)]
    by_cases h : j = 0
    · subst h; rw [if_pos rfl, nI_0]; exact Int32.add_zero _
    · rw [if_neg h]]
  rfl
theorem zqg_n (c : CT) (i : Nat) : zqg c i (zqk c i) = zqg c (i + 1) 0 := by
  unfold zqg
  refine congrArg (sFe c) (funext fun j => ?_)
  by_cases h : j < i
  · rw [if_pos h, if_pos (by omega)]
  · rw [if_neg h]
    by_cases h2 : j = i
    · subst h2; rw [if_pos rfl, if_pos (by omega)]
    · rw [if_neg h2, if_neg (by omega)]
      by_cases h3 : j = i + 1
      · subst h3; rw [if_pos rfl, nI_0]; exact (Int32.add_zero _).symm
      · rw [if_neg h3]
theorem zqg_fe (c : CT) (i k : Nat) : cFe (zqg c i k) i = cFe c i + nI k := by
  show (if i < i then _ else if i = i then _ else _) = _
  rw [if_neg (Nat.lt_irrefl _), if_pos rfl]
theorem zqg_s (c : CT) (i k : Nat) : sFe (zqg c i k) (va_up (cFe (zqg c i k)) i (cFe c i + nI k + 1)) = zqg c i (k + 1) := by
  show sFe (sFe c _) _ = sFe c _
  refine congrArg (sFe c) (funext fun j => ?_)
  by_cases h : j = i
  · subst h; rw [az_up_self, if_neg (Nat.lt_irrefl _), if_pos rfl, nI_succ, Int32.add_assoc]
  · rw [az_up_ne h]
    show (if j < i then _ else if j = i then _ else _) = _
    rw [if_neg h, if_neg h]
theorem zsp_fe {c : CT} {p : Nat} {f g : Nat → Int32} (h : f p = g p) : zsp (sFe c f) p = zsp (sFe c g) p := by
  show decide (zlim (cKd c p) (cAa c p) (cPr c p) < zcold (cKd c p) (cAa c p) (cBr c p) (f p) (cAir c) _) = decide (zlim (cKd c p) (cAa c p) (cPr c p) < zcold (cKd c p) (cAa c p) (cBr c p) (g p) (cAir c) _)
  rw [h]
  rfl
theorem zqg_sp (c : CT) (i k : Nat) : zsp (zqg c i k) i = zsF c i (cFe c i + nI k) := by
  unfold zqg zsF
  refine zsp_fe ?_
  rw [if_neg (Nat.lt_irrefl _), if_pos rfl, az_up_self]
theorem cTl_qg {c : CT} (h : cTl c) {i k : Nat} (hi : i < 8) : cTl (zqg c i k) := cTl_fe h (fun j hj => by rw [if_neg (by omega), if_neg (by omega)]; exact (h j hj).2.2.2.2)
theorem cTl_qg0 {c : CT} (h : cTl c) {i : Nat} (hi : i ≤ 8) : cTl (zqg c i 0) := cTl_fe h (fun j hj => by
  rw [if_neg (by omega)]
  split
  · subst_vars; rw [nI_0, (h _ hj).2.2.2.2]; decide
  · exact (h j hj).2.2.2.2)
def zqP (c : CT) (j : Nat) : Bool := zsF c j (cFe c j + nI (zqk c j))
def zquiet (c : CT) : Int32 := if zfind (zqP c) (cN c) = none then l_sum (fun j => nI (zqk c j)) (cN c) else -1
theorem cTl_PA {c : CT} (h : cTl c) {p : Nat} (hp : p < 8) (v a : Int32) : cTl (cPA c p v a) := cTl_air (cTl_pr h hp v) a
theorem zallb_tt {p : Nat → Bool} {n : Nat} (h : zallb p n = true) {k : Nat} (hk : k < n) : p k = true := by
  have q := of_decide_eq_true h
  have h2 := fa_first_no (fun k => !p k) n k (by omega)
  cases hp : p k
  · simp [hp] at h2
  · rfl
theorem lt1_s {P : Nat → Bool} {j : Nat} (h : ∀ k, 1 ≤ k → k < j → P k = false) (h2 : P j = false) : ∀ k, 1 ≤ k → k < j + 1 → P k = false := fun k k1 hk => by
  rcases Nat.lt_or_ge k j with q | q
  · exact h k k1 q
  · rw [show k = j by omega]; exact h2
