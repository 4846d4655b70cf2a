theorem zat_put {sg : Nat → Nat → Int32} {la : Nat → Nat → Int64} {o s0 : Nat} {c : CT} {i : Int32} (h : s0 < o ∨ o + 6 ≤ s0) : zat (zput sg o c) la s0 i = zat sg la s0 i := by unfold zat; rw [zput_ne h]
theorem zs_at (l : Launch) (G : az_Gh) (d : Nat) (sh : List az_Sh) (sg : Nat → Nat → Int32) (la : Nat → Nat → Int64) (o : Nat) (c : CT) (s0 : Nat) (i : Int32) (hS : az_at sh s0 (lyS s0)) (h : s0 < o ∨ o + 6 ≤ s0) (hz : ∃ z, sg s0 2 = nI z ∧ z ≤ 40) : FM l G (d + 1) mX4_at [.ref s0, .int i] (sh, zput sg o c, la) (some (.long (zat sg la s0 i))) (sh, zput sg o c, la) := by
  obtain ⟨z, h1, h2⟩ := hz
  have q := c_X4_at l G d sh (zput sg o c) la s0 i hS z (by rw [zput_ne h]; exact h1) h2
  rw [zat_put h] at q
  exact q
theorem ct_w {s : Nat → Nat → Int32} {o n0 j : Nat} {x : Int32} (h : n0 + 5 < o ∨ o < n0) : ct (az_w s o j x) n0 = ct s n0 := by
  unfold ct
  rw [az_w_ne (by omega), az_w_ne (by omega), az_w_ne (by omega), az_w_ne (by omega), az_w_ne (by omega), az_w_ne (by omega)]
theorem ct_put {s : Nat → Nat → Int32} {o n0 : Nat} {c : CT} (h : n0 + 5 < o ∨ o + 6 ≤ n0) : ct (zput s o c) n0 = ct s n0 := by
  unfold ct
  rw [zput_ne (by omega), zput_ne (by omega), zput_ne (by omega), zput_ne (by omega), zput_ne (by omega), zput_ne (by omega)]
theorem zw_out {s : Nat → Nat → Int32} {o k j : Nat} {c : CT} {x : Int32} (h : k < o ∨ o + 6 ≤ k) : az_w (zput s o c) k j x = zput (az_w s k j x) o c := by
  funext q
  by_cases hq : q = k
  · subst hq
    rw [az_w_same, zput_ne h, zput_ne h, az_w_same]
  · rw [az_w_ne hq]
    by_cases h2 : q < o ∨ o + 6 ≤ q
    · rw [zput_ne h2, zput_ne h2, az_w_ne hq]
    · have hk : q = o ∨ q = o + 1 ∨ q = o + 2 ∨ q = o + 3 ∨ q = o + 4 ∨ q = o + 5 := by omega
      rcases hk with rfl | rfl | rfl | rfl | rfl | rfl
      · rw [zput_o, zput_o, az_w_ne hq]
      · rw [za_1, za_1]
      · rw [za_2, za_2]
      · rw [za_3, za_3]
      · rw [za_4, za_4]
      · rw [za_5, za_5]
/-- all of the first n -/
def zallb (p : Nat → Bool) (n : Nat) : Bool := decide (fa_first (fun k => !p k) n = n)
theorem zallb_t {p : Nat → Bool} {n : Nat} (h : ∀ k, k < n → p k = true) : zallb p n = true := decide_eq_true (fa_first_none (fun k hk => by simp [h k hk]))
theorem zallb_f {p : Nat → Bool} {n i : Nat} (hi : i < n) (h : p i = false) (hn : ∀ k, k < i → p k = true) : zallb p n = false := decide_eq_false (by rw [fa_first_eq (i := i) hi (by simp [h]) (fun k hk => by simp [hn k hk])]; omega)
/-- bits of those with f -/
def zbits (f : Nat → Bool) : Nat → Int32
  | 0 => 0
  | i + 1 => if f i = true then zbits f i ||| ((1 : Int32) <<< (nI i &&& 31)) else zbits f i
theorem zbits_y {f : Nat → Bool} {i : Nat} (h : f i = true) : zbits f (i + 1) = zbits f i ||| ((1 : Int32) <<< (nI i &&& 31)) := if_pos h
theorem zbits_n {f : Nat → Bool} {i : Nat} (h : ¬ f i = true) : zbits f (i + 1) = zbits f i := if_neg h
def cPA (c : CT) (p : Nat) (v a : Int32) : CT := sAir (sPr c (va_up (cPr c) p v)) a
theorem cPA_0 (c : CT) (p : Nat) : c = cPA c p (cPr c p) (cAir c) := by
  show c = sAir (sPr c (va_up (cPr c) p (cPr c p))) (cAir c)
  rw [az_up_id]
  rfl
theorem cPA_v (c : CT) (p : Nat) (v w a : Int32) : sPr (cPA c p v a) (va_up (cPr (cPA c p v a)) p w) = cPA c p w a := by
  show sPr (sAir (sPr c (va_up (cPr c) p v)) a) (va_up (va_up (cPr c) p v) p w) = sAir (sPr c (va_up (cPr c) p w)) a
  rw [az_up_up]
  rfl
def zaP (sg : Nat → Nat → Int32) (la : Nat → Nat → Int64) (s0 : Nat) (c : CT) (m p v : Nat) : Bool := zallb (fun k => decide ((b2i (zsp (cPA c p (nI v) (zat sg la s0 (2 * nI k)).toInt32) p = true)).toInt64 = zat sg la s0 (2 * nI k + 1))) m
def zaK (sg : Nat → Nat → Int32) (la : Nat → Nat → Int64) (s0 : Nat) (c : CT) (m p v : Nat) : Bool := zallb (fun k => decide ((zcT (nI v) (sAir c (zat sg la s0 (2 * nI k)).toInt32) p).toInt64 = zat sg la s0 (2 * nI k + 1))) m
def zwrg (sg : Nat → Nat → Int32) (la : Nat → Nat → Int64) (s0 : Nat) (c : CT) (m : Nat) : Option Nat := zfind (fun d => decide (¬ zat sg la s0 (nI d) = (oI (zbest (zdays d c))).toInt64)) m
def zeach (c : CT) (t : Nat) : Option Nat := zfind (fun m => zno (zmf c (fun _ => true) (nI m) (cN c)) t) 41

theorem zcmp_t {a b : Int32} : zcmp true a b = true ↔ a < b := by
  unfold zcmp; rw [if_pos rfl]; exact decide_eq_true_iff
theorem zcmp_f {a b : Int32} : zcmp false a b = true ↔ b < a := by
  unfold zcmp; rw [if_neg (by decide)]; exact decide_eq_true_iff
def zfH (c : CT) (p : Nat) : Int32 := nI (zhear c p)
def zfW (c : CT) (p : Nat) : Int32 := nI (zwhen (zleave c p) 60)
theorem zfH_I (c : CT) (p : Nat) : znl (zhearI c p) = zfH c p := znl_nI (fa_first_le _ _) rfl
theorem zfW_I (c : CT) (p : Nat) : znl (zwhenI (zleave c p) 60) = zfW c p := znl_nI (zwhen_le _ _) rfl
