/-! Turns, pure -/
def lyT (o : Nat) : List az_Sh := (6, 0, [some (some (o + 1)), some (some (o + 7))]) :: (lyC (o + 1) ++ [(100, 8, [])])
theorem lyT_C {sh : List az_Sh} {o : Nat} (h : az_at sh o (lyT o)) : az_at sh (o + 1) (lyC (o + 1)) := by
  intro k q hk
  have hl : k < 6 := by
    rcases Nat.lt_or_ge k 6 with q9 | q9
    · exact q9
    · rw [List.getElem?_eq_none (by show 6 ≤ k; exact q9)] at hk; cases hk
  have h2 := h (k + 1) q (by
    show (lyC (o + 1) ++ _)[k]? = some q
    rw [List.getElem?_append_left (by show k < 6; exact hl)]
    exact hk)
  rw [show o + 1 + k = o + (k + 1) by omega]
  exact h2
theorem b2i_eq {a b : Bool} : b2i (a = true) = b2i (b = true) ↔ a = b := by cases a <;> cases b <;> decide
theorem b2i_not (f : Bool) : (if b2i (f = true) = 0 then (1 : Int32) else 0) = b2i ((!f) = true) := by cases f <;> decide
def zfe (c : CT) (i : Nat) (x : Int32) : CT := sFe c (va_up (cFe c) i x)
theorem zc_fe {c : CT} {p : Nat} {f g : Nat → Int32} (h : f p = g p) : zc (sFe c f) p = zc (sFe c g) p := by
  show zcold (cKd c p) (cAa c p) (cBr c p) (f p) (cAir c) _ = zcold (cKd c p) (cAa c p) (cBr c p) (g p) (cAir c) _
  rw [h]
  rfl
def zkc (c : CT) (f : Nat → Int32) : Nat → Int32 := fun j => if j < cN c then zc c j else f j
def zkp (c : CT) (i : Nat) (f : Nat → Int32) : Nat → Int32 := fun j => if j < i then zc c j else f j
theorem zkp_0 (c : CT) (f : Nat → Int32) : zkp c 0 f = f := funext fun j => if_neg (by omega)
theorem zkp_s (c : CT) (i : Nat) (f : Nat → Int32) : va_up (zkp c i f) i (zc c i) = zkp c (i + 1) f := by
  funext j
  by_cases h : j = i
  · subst h; rw [az_up_self]; exact (if_pos (by omega)).symm
  · rw [az_up_ne h]
    show (if _ then _ else _) = (if _ then _ else _)
    by_cases h2 : j < i
    · rw [if_pos h2, if_pos (by omega)]
    · rw [if_neg h2, if_neg (by omega)]
theorem zkc_at {c : CT} {f : Nat → Int32} {j : Nat} (h : j < cN c) : zkc c f j = zc c j := if_pos h
theorem zkc_up {c : CT} {f : Nat → Int32} {i : Nat} {x : Int32} (h : i < cN c) : va_up (zkc c f) i (zc (zfe c i x) i) = zkc (zfe c i x) f := by
  funext j
  by_cases hj : j = i
  · subst hj; rw [az_up_self]; exact (if_pos h).symm
  · rw [az_up_ne hj]
    show (if j < cN c then zc c j else f j) = (if j < cN c then zc (zfe c i x) j else f j)
    by_cases h2 : j < cN c
    · rw [if_pos h2, if_pos h2]
      exact zc_fe (c := c) (f := cFe c) (g := va_up (cFe c) i x) (az_up_ne hj).symm
    · rw [if_neg h2, if_neg h2]
theorem zkc_back {c : CT} {f : Nat → Int32} {i : Nat} {x : Int32} (h : i < cN c) : va_up (zkc (zfe c i x) f) i (zc c i) = zkc c f := by
  rw [← zkc_up h, az_up_up, ← zkc_at (f := f) h, az_up_id]
theorem zfe_back (c : CT) (i : Nat) (x : Int32) : sFe (zfe c i x) (va_up (cFe (zfe c i x)) i (cFe c i)) = c := by
  show sFe (sFe c _) (va_up (va_up (cFe c) i x) i (cFe c i)) = c
  rw [az_up_up, az_up_id]
  rfl
theorem zb_f0 {c : CT} (haw : cAway c = -1) {i : Nat} (hi : i < 100) (h : zb c i = none) : zb c (i + 1) = some i := by
  show (if nI i = cAway c then zb c i else _) = _
  rw [if_neg (by rw [haw]; exact nI_n1 (by omega)), h]
theorem zb_f1 {c : CT} (haw : cAway c = -1) {i k : Nat} (hi : i < 100) (h : zb c i = some k) (hc : zc c k < zc c i) : zb c (i + 1) = some i := by
  show (if nI i = cAway c then zb c i else _) = _
  rw [if_neg (by rw [haw]; exact nI_n1 (by omega)), h]
  exact if_pos hc
theorem zb_f2 {c : CT} (haw : cAway c = -1) {i k : Nat} (hi : i < 100) (h : zb c i = some k) (hc : ¬ zc c k < zc c i) : zb c (i + 1) = some k := by
  show (if nI i = cAway c then zb c i else _) = _
  rw [if_neg (by rw [haw]; exact nI_n1 (by omega)), h]
  exact if_neg hc
theorem oI_s {q : Option Nat} (h : ¬ oI q = -1) : ∃ k, q = some k := by
  cases q with
  | none => exact absurd rfl h
  | some k => exact ⟨k, rfl⟩
def zmP (z : CT → Bool) (c : CT) (f : Bool) (i : Nat) : Bool := (decide (cFe c i < 40) && (z (zfe c i (cFe c i + 1)) == f)) || (decide (0 < cFe c i) && (z (zfe c i (cFe c i - 1)) == f))
def zmk : Nat → CT → Bool → Bool
  | 0, c, _ => zso c
  | n + 1, c, f => if zmk n c (!f) = f then f else if zfind (zmP (fun e => zmk n e (!f)) c f) (cN c) = none then !f else f
theorem zmk_a {n : Nat} {c : CT} {f : Bool} (h : zmk n c (!f) = f) : zmk (n + 1) c f = f := if_pos h
theorem zmk_b {n : Nat} {c : CT} {f : Bool} (h : ¬ zmk n c (!f) = f) {i : Nat} (hi : i < cN c) (hp : zmP (fun e => zmk n e (!f)) c f i = true) (hn : ∀ k, k < i → zmP (fun e => zmk n e (!f)) c f k = false) : zmk (n + 1) c f = f := by
  show (if zmk n c (!f) = f then f else _) = _
  rw [if_neg h, zfind_some hi hp hn, if_neg (by intro q; cases q)]
theorem zmk_c {n : Nat} {c : CT} {f : Bool} (h : ¬ zmk n c (!f) = f) (hn : ∀ k, k < cN c → zmP (fun e => zmk n e (!f)) c f k = false) : zmk (n + 1) c f = !f := by
  show (if zmk n c (!f) = f then f else _) = _
  rw [if_neg h, zfind_none hn, if_pos rfl]
theorem zmP_u {z : CT → Bool} {c : CT} {f : Bool} {i : Nat} (h1 : cFe c i < 40) (h2 : z (zfe c i (cFe c i + 1)) = f) : zmP z c f i = true := by
  unfold zmP; rw [decide_eq_true h1, h2]; simp
theorem zmP_d {z : CT → Bool} {c : CT} {f : Bool} {i : Nat} (h1 : 0 < cFe c i) (h2 : z (zfe c i (cFe c i - 1)) = f) : zmP z c f i = true := by
  unfold zmP; rw [decide_eq_true h1, h2]; simp
theorem zmP_n {z : CT → Bool} {c : CT} {f : Bool} {i : Nat} (h1 : ¬ cFe c i < 40 ∨ ¬ z (zfe c i (cFe c i + 1)) = f) (h2 : ¬ 0 < cFe c i ∨ ¬ z (zfe c i (cFe c i - 1)) = f) : zmP z c f i = false := by
  unfold zmP
  refine Bool.or_eq_false_iff.mpr ⟨Bool.and_eq_false_iff.mpr ?_, Bool.and_eq_false_iff.mpr ?_⟩
  · rcases h1 with h | h
    · exact Or.inl (decide_eq_false h)
    · exact Or.inr (beq_eq_false_iff_ne.mpr h)
  · rcases h2 with h | h
    · exact Or.inl (decide_eq_false h)
    · exact Or.inr (beq_eq_false_iff_ne.mpr h)
