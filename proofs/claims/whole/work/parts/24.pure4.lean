theorem az_am {l : Launch} {G : az_Gh} {d : Nat} {M : az_Md} {as : List Value} {S : az_St} {Q : Option Value → az_St → Prop} (hk : az_kn M) (hle : (lg_sl (as.map (az_cv G))).length ≤ M.2.2.1) {lo : List (Option Value)} (hlo : az_en M.2.2.1 as = lo) (k : ∀ Post : Option Value → az_St → Prop, (∀ r1 S1, Q r1 S1 → Post r1 S1) → AW l G M d (az_F G Post) 0 0 0 lo [] S) : AM l G d M as S 0 0 Q := az_enter hk hle hlo (k _ (fun _ _ h => h))
def lyF (o : Nat) : List az_Sh := (3, 0, [some (some (o + 1)), none]) :: lyC (o + 1)
theorem lyF_C {sh : List az_Sh} {o : Nat} (h : az_at sh o (lyF o)) : az_at sh (o + 1) (lyC (o + 1)) := by
  intro k q hq
  have := h (k + 1) q hq
  rwa [show o + (k + 1) = o + 1 + k by omega] at this
theorem cTl_cool {c : CT} {k : Int32} (h : cTl c) (h8 : cN c ≤ 8) : cTl (zcool k c) := by
  intro j hj
  obtain ⟨h1, h2, h3, h4, h5⟩ := h j hj
  refine ⟨h1, h2, h3, h4, ?_⟩
  show (if j < cN c then mx0 (cFe c j - k) else cFe c j) = 0
  rw [if_neg (by omega)]
  exact h5
theorem cTl_days {c : CT} (h : cTl c) (h8 : cN c ≤ 8) (k : Nat) : cTl (zdays k c) := by
  induction k with
  | zero => exact h
  | succ k ih => exact cTl_cool ih (by rw [zdays_N]; exact h8)
theorem cTl_fe {c : CT} (h : cTl c) {f : Nat → Int32} (hf : ∀ j, 8 ≤ j → f j = 0) : cTl (sFe c f) := fun j hj => ⟨(h j hj).1, (h j hj).2.1, (h j hj).2.2.1, (h j hj).2.2.2.1, hf j hj⟩
theorem cTl_more {c : CT} (h : cTl c) {p : Nat} (hp : p < 8) (n : Int32) : cTl (zmore c p n) := cTl_fe h (fun j hj => by rw [az_up_ne (by omega)]; exact (h j hj).2.2.2.2)
theorem cTl_leave {c : CT} (h : cTl c) (p : Nat) : cTl (zleave c p) := h
theorem cTl_air {c : CT} (h : cTl c) (a : Int32) : cTl (sAir c a) := h
theorem cTl_pr {c : CT} (h : cTl c) {p : Nat} (hp : p < 8) (v : Int32) : cTl (sPr c (va_up (cPr c) p v)) := fun j hj => ⟨(h j hj).1, (h j hj).2.1, by show va_up _ _ _ _ = _; rw [az_up_ne (by omega)]; exact (h j hj).2.2.1, (h j hj).2.2.2.1, (h j hj).2.2.2.2⟩
/-- NONE as the last day -/
def znl (x : Int32) : Int32 := if x = -1 then 61 else x
theorem nI_n1 {k : Nat} (h : k < 2 ^ 31) : ¬ nI k = -1 := fun q => absurd (nI_pos' h) (by rw [q]; decide)
theorem znl_nI {m t : Nat} (ht : t ≤ m + 1) (hm : m = 60) : znl (if t ≤ m then nI t else -1) = nI t := by
  subst hm
  unfold znl
  by_cases h : t ≤ 60
  · rw [if_pos h, if_neg (nI_n1 (by omega))]
  · rw [if_neg h, if_pos rfl]
    have : t = 61 := by omega
    subst this
    rfl
theorem zwhen_le (c : CT) (m : Nat) : zwhen c m ≤ m + 1 := fa_first_le _ _
def zhear (c : CT) (p : Nat) : Nat := fa_first (fun k => zsp (zdays k c) p) 61
def zhearI (c : CT) (p : Nat) : Int32 := if zhear c p ≤ 60 then nI (zhear c p) else -1
def zcmp (lg : Bool) (a b : Int32) : Bool := if lg = true then decide (a < b) else decide (b < a)
/-- the best of so many, the first of several -/
def zbst (f : Nat → Int32) (lg : Bool) : Nat → Option Nat
  | 0 => none
  | i + 1 => match zbst f lg i with
    | none => some i
    | some k => if zcmp lg (f k) (f i) = true then some i else some k
def zbday (f : Nat → Int32) (lg : Bool) (i : Nat) : Int32 := match zbst f lg i with
  | none => 0
  | some k => f k
theorem zbst_none {f : Nat → Int32} {lg : Bool} {i : Nat} (h : oI (zbst f lg i) = -1) (hi : i ≤ 8) : zbst f lg i = none := by
  cases hq : zbst f lg i with
  | none => rfl
  | some k =>
    exfalso
    have hk : ∀ (i k : Nat), zbst f lg i = some k → k < i := by
      intro i
      induction i with
      | zero => intro k h; cases h
      | succ i ih =>
        intro k h
        unfold zbst at h
        split at h
        · cases h; omega
        · rename_i k9 hk
          have := ih k9 hk
          split at h <;> cases h <;> omega
    have := hk i k hq
    rw [hq] at h
    exact nI_n1 (by omega) h
theorem zbst_lt {f : Nat → Int32} {lg : Bool} : ∀ (i k : Nat), zbst f lg i = some k → k < i := by
  intro i
  induction i with
  | zero => intro k h; cases h
  | succ i ih =>
    intro k h
    unfold zbst at h
    split at h
    · cases h; omega
    · rename_i k9 hk
      have := ih k9 hk
      split at h <;> cases h <;> omega
theorem zbst_first {f : Nat → Int32} {lg : Bool} {i : Nat} (h : zbst f lg i = none) : zbst f lg (i + 1) = some i := by
  show (match zbst f lg i with | none => some i | some k => if zcmp lg (f k) (f i) = true then some i else some k) = _
  rw [h]
theorem zbst_yes {f : Nat → Int32} {lg : Bool} {i : Nat} (h : ¬ oI (zbst f lg i) = -1) (hc : zcmp lg (zbday f lg i) (f i) = true) : zbst f lg (i + 1) = some i := by
  show (match zbst f lg i with | none => some i | some k => if zcmp lg (f k) (f i) = true then some i else some k) = _
  unfold zbday at hc
  cases hq : zbst f lg i with
  | none => exact absurd (by rw [hq]; rfl) h
  | some k => rw [hq] at hc; exact if_pos hc
theorem zbst_no {f : Nat → Int32} {lg : Bool} {i : Nat} (h : ¬ oI (zbst f lg i) = -1) (hc : ¬ zcmp lg (zbday f lg i) (f i) = true) : zbst f lg (i + 1) = zbst f lg i := by
  show (match zbst f lg i with | none => some i | some k => if zcmp lg (f k) (f i) = true then some i else some k) = _
  unfold zbday at hc
  cases hq : zbst f lg i with
  | none => exact absurd (by rw [hq]; rfl) h
  | some k => rw [hq] at hc; exact if_neg hc
theorem zbday_some {f : Nat → Int32} {lg : Bool} {i k : Nat} (h : zbst f lg i = some k) : zbday f lg i = f k := by unfold zbday; rw [h]
theorem zbday_eq {f : Nat → Int32} {lg : Bool} {i j : Nat} (h : zbst f lg i = zbst f lg j) : zbday f lg i = zbday f lg j := by unfold zbday; rw [h]
/-- so many more fed, those of whom g says so -/
def zmf (c : CT) (g : Nat → Bool) (m : Int32) (i : Nat) : CT := sFe c (fun j => if j < i ∧ g j = true then mnI 40 (cFe c j + m) else cFe c j)
theorem zmf_0 (c : CT) (g : Nat → Bool) (m : Int32) : zmf c g m 0 = c := by
  show sFe c _ = sFe c (cFe c)
  exact congrArg (sFe c) (funext fun j => if_neg (fun q => absurd q.1 (by omega)))
theorem zmf_no {c : CT} {g : Nat → Bool} {m : Int32} {i : Nat} (h : g i = false) : zmf c g m (i + 1) = zmf c g m i := by
  refine congrArg (sFe c) (funext fun j => ?_)
  by_cases hj : j = i
  · subst hj
    rw [if_neg (fun q => by rw [h] at q; exact absurd q.2 (by decide)), if_neg (fun q => absurd q.1 (by omega))]
  · by_cases h2 : j < i ∧ g j = true
    · rw [if_pos h2, if_pos ⟨by omega, h2.2⟩]
    · rw [if_neg h2, if_neg (fun q => h2 ⟨by omega, q.2⟩)]
theorem zmf_yes {c : CT} {g : Nat → Bool} {m : Int32} {i : Nat} (h : g i = true) : zmf c g m (i + 1) = zmore (zmf c g m i) i m := by
  refine congrArg (sFe c) (funext fun j => ?_)
  show _ = va_up (cFe (zmf c g m i)) i (mnI 40 (cFe (zmf c g m i) i + m)) j
  have hi : cFe (zmf c g m i) i = cFe c i := if_neg (fun q => absurd q.1 (by omega))
  rw [hi]
  by_cases hj : j = i
  · subst hj
    rw [if_pos ⟨by omega, h⟩, az_up_self]
  · rw [az_up_ne hj]
    show _ = (if j < i ∧ g j = true then mnI 40 (cFe c j + m) else cFe c j)
    by_cases h2 : j < i ∧ g j = true
    · rw [if_pos h2, if_pos ⟨by omega, h2.2⟩]
    · rw [if_neg h2, if_neg (fun q => h2 ⟨by omega, q.2⟩)]
theorem mnI40 {x : Int32} (h : 0 ≤ x.toInt) : iR (mnI 40 x) 40 := by
  unfold mnI iR
  split
  · rename_i h1
    have := Int32.lt_iff_toInt_lt.mp h1
    rw [c40] at this
    omega
  · rw [c40]; omega
theorem cRng_fe {c : CT} (h : cRng c) {f : Nat → Int32} (hf : ∀ p, p < cN c → iR (f p) 40) : cRng (sFe c f) := ⟨h.1, h.2.1, h.2.2.1, fun p hp => ⟨(h.2.2.2 p hp).1, (h.2.2.2 p hp).2.1, hf p hp, (h.2.2.2 p hp).2.2.2⟩⟩
theorem fe_add {c : CT} (h : cRng c) {p : Nat} (hp : p < cN c) {m : Int32} (hm : iR m 40) : iR (mnI 40 (cFe c p + m)) 40 := by
  have h1 := (h.2.2.2 p hp).2.2.1
  exact mnI40 (by rw [(iR_add h1 hm (by omega)).2]; unfold iR at *; omega)
theorem cRng_more {c : CT} (h : cRng c) {p : Nat} (hp : p < cN c) {m : Int32} (hm : iR m 40) : cRng (zmore c p m) := cRng_fe h (fun q hq => by
  by_cases e : q = p
  · subst e; rw [az_up_self]; exact fe_add h hp hm
  · rw [az_up_ne e]; exact (h.2.2.2 q hq).2.2.1)
theorem cRng_mf {c : CT} (h : cRng c) {g : Nat → Bool} {m : Int32} (hm : iR m 40) (i : Nat) : cRng (zmf c g m i) := cRng_fe h (fun q hq => by
  split
  · exact fe_add h hq hm
  · exact (h.2.2.2 q hq).2.2.1)
theorem cTl_mf {c : CT} (h : cTl c) {g : Nat → Bool} {m : Int32} {i : Nat} (hi : i ≤ 8) : cTl (zmf c g m i) := cTl_fe h (fun j hj => by rw [if_neg (fun q => absurd q.1 (by omega))]; exact (h j hj).2.2.2.2)
theorem cRng_leave {c : CT} (h : cRng c) (p : Nat) : cRng (zleave c p) := h
/-- not so within t days -/
def zno (c : CT) (t : Nat) : Bool := decide (t < zwhen c t)
theorem zno_I {c : CT} {t : Nat} (h31 : t < 1000) : zwhenI c t = -1 ↔ zno c t = true := by
  unfold zwhenI zno
  have := zwhen_le c t
  by_cases h : zwhen c t ≤ t
  · rw [if_pos h]
    exact ⟨fun q => absurd q (nI_n1 (by omega)), fun q => absurd (of_decide_eq_true q) (by omega)⟩
  · rw [if_neg h]
    exact ⟨fun _ => decide_eq_true (by omega), fun _ => rfl⟩
theorem zjust_I {c : CT} {t : Nat} (h31 : t < 1000) : zwhenI c t = nI t ↔ zwhen c t = t := by
  unfold zwhenI
  by_cases h : zwhen c t ≤ t
  · rw [if_pos h]
    exact nI_eq (by omega) (by omega)
  · rw [if_neg h]
    exact ⟨fun q => absurd q.symm (nI_n1 (by omega)), fun q => absurd q (by omega)⟩
theorem nI_le40 {m : Nat} (h : m ≤ 40) : iR (nI m) 40 := by
  unfold iR
  rw [nI_toInt (by omega)]
  omega
theorem zbday_up {f : Nat → Int32} {lg : Bool} {i : Nat} {P : Prop} (h : oI (zbst f lg i) = -1) (hi : i ≤ 8) : zbst f lg (i + 1) = some i := zbst_first (zbst_none h hi)
