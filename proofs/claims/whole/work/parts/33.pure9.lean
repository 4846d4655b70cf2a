/-! Bowls, pure -/
def lyB (o : Nat) : List az_Sh := [(0, 0, [some (some (o + 1)), some (some (o + 2)), none]), (100, 8, []), (100, 256, [])]
def zB (sg : Nat → Nat → Int32) (o : Nat) (k : Int32) (B W : Nat → Int32) : Nat → Nat → Int32 := va_up (va_up (az_w sg o 2 k) (o + 1) B) (o + 2) W
theorem zB_2 (sg : Nat → Nat → Int32) (o : Nat) (k : Int32) (B W : Nat → Int32) : zB sg o k B W (o + 2) = W := az_up_self
theorem zB_1 (sg : Nat → Nat → Int32) (o : Nat) (k : Int32) (B W : Nat → Int32) : zB sg o k B W (o + 1) = B := by unfold zB; rw [az_up_ne (by omega), az_up_self]
theorem zB_k (sg : Nat → Nat → Int32) (o : Nat) (k : Int32) (B W : Nat → Int32) : zB sg o k B W o 2 = k := by unfold zB; rw [az_up_ne (by omega), az_up_ne (by omega), az_w_at]
theorem zB_ne {sg : Nat → Nat → Int32} {o : Nat} {k : Int32} {B W : Nat → Int32} {i : Nat} (h : i < o ∨ o + 3 ≤ i) : zB sg o k B W i = sg i := by unfold zB; rw [az_up_ne (by omega), az_up_ne (by omega), az_w_ne (by omega)]
theorem zB_0 (sg : Nat → Nat → Int32) (o : Nat) : sg = zB sg o (sg o 2) (sg (o + 1)) (sg (o + 2)) := by
  unfold zB az_w
  rw [az_up_id, az_up_id, az_up_id, az_up_id]
theorem zB_w1 {sg : Nat → Nat → Int32} {o : Nat} {k : Int32} {B W B' : Nat → Int32} : va_up (zB sg o k B W) (o + 1) B' = zB sg o k B' W := by
  unfold zB
  rw [az_up_sw _ (by omega), az_up_up]
theorem zB_w2 {sg : Nat → Nat → Int32} {o : Nat} {k : Int32} {B W W' : Nat → Int32} : va_up (zB sg o k B W) (o + 2) W' = zB sg o k B W' := by
  unfold zB
  rw [az_up_up]
theorem zB_wk {sg : Nat → Nat → Int32} {o : Nat} {k k' : Int32} {B W : Nat → Int32} : az_w (zB sg o k B W) o 2 k' = zB sg o k' B W := by
  unfold zB az_w
  rw [az_up_ne (by omega), az_up_ne (by omega), az_up_self, az_up_sw _ (by omega : o + 2 ≠ o), az_up_sw _ (by omega : o + 1 ≠ o), az_up_up, az_up_up]
theorem zB_e1 {sg : Nat → Nat → Int32} {o j : Nat} {k x : Int32} {B W : Nat → Int32} : az_w (zB sg o k B W) (o + 1) j x = zB sg o k (va_up B j x) W := by
  unfold az_w
  rw [zB_1]
  exact zB_w1
theorem zB_e2 {sg : Nat → Nat → Int32} {o j : Nat} {k x : Int32} {B W : Nat → Int32} : az_w (zB sg o k B W) (o + 2) j x = zB sg o k B (va_up W j x) := by
  unfold az_w
  rw [zB_2]
  exact zB_w2
theorem zat_B {sg : Nat → Nat → Int32} {la : Nat → Nat → Int64} {o s0 : Nat} {k : Int32} {B W : Nat → Int32} {i : Int32} (h : s0 < o ∨ o + 3 ≤ s0) : zat (zB sg o k B W) la s0 i = zat sg la s0 i := by unfold zat; rw [zB_ne h]
def zbl (B : Nat → Int32) (p q : Nat) : Bool := decide ((B q >>> (nI p &&& 31)) &&& 1 = 1)
/-- one told above another -/
def zpn (N : Nat) (B : Nat → Int32) (p q i : Nat) : Nat → Int32 := fun j => if j < i ∧ (j = p ∨ zbl B p j = true) then B j ||| (B q ||| ((1 : Int32) <<< (nI q &&& 31))) else B j
theorem zpn_0 (N : Nat) (B : Nat → Int32) (p q : Nat) : zpn N B p q 0 = B := funext fun j => if_neg (fun h => absurd h.1 (by omega))
theorem zpn_at (N : Nat) (B : Nat → Int32) (p q i : Nat) : zpn N B p q i i = B i := if_neg (fun h => absurd h.1 (by omega))
theorem zpn_y {N : Nat} {B : Nat → Int32} {p q i : Nat} (h : i = p ∨ zbl B p i = true) : va_up (zpn N B p q i) i (B i ||| (B q ||| ((1 : Int32) <<< (nI q &&& 31)))) = zpn N B p q (i + 1) := by
  funext j
  by_cases hj : j = i
  · subst hj; rw [az_up_self]; exact (if_pos ⟨by omega, h⟩).symm
  · rw [az_up_ne hj]
    show (if _ then _ else _) = (if _ then _ else _)
    by_cases h2 : j < i ∧ (j = p ∨ zbl B p j = true)
    · rw [if_pos h2, if_pos ⟨by omega, h2.2⟩]
    · rw [if_neg h2, if_neg (fun q2 => h2 ⟨by omega, q2.2⟩)]
theorem zpn_n {N : Nat} {B : Nat → Int32} {p q i : Nat} (h : ¬ (i = p ∨ zbl B p i = true)) : zpn N B p q i = zpn N B p q (i + 1) := by
  funext j
  show (if _ then _ else _) = (if _ then _ else _)
  by_cases h2 : j < i ∧ (j = p ∨ zbl B p j = true)
  · rw [if_pos h2, if_pos ⟨by omega, h2.2⟩]
  · rw [if_neg h2, if_neg (fun q2 => h2 ⟨by
      rcases Nat.lt_or_ge j i with q9 | q9
      · exact q9
      · have : j = i := by omega
        subst this
        exact absurd q2.2 h, q2.2⟩)]
def zIn (N : Nat) (a : Int64) : Prop := 0 ≤ a ∧ a < (nI N).toInt64
def zInB (N : Nat) (a : Int64) : Bool := decide (0 ≤ a) && decide (a < (nI N).toInt64)
theorem zInB_t {N : Nat} {a : Int64} (h : zIn N a) : zInB N a = true := by unfold zInB; rw [decide_eq_true h.1, decide_eq_true h.2]; rfl
theorem zInB_f {N : Nat} {a : Int64} (h : ¬ zIn N a) : zInB N a = false := by
  by_cases h1 : 0 ≤ a
  · by_cases h2 : a < (nI N).toInt64
    · exact absurd ⟨h1, h2⟩ h
    · unfold zInB; rw [decide_eq_false h2, Bool.and_false]
  · unfold zInB; rw [decide_eq_false h1, Bool.false_and]
def zpx (a : Int64) : Nat := a.toInt32.toNatClampNeg
theorem zIn_at {N : Nat} {a : Int64} (hN : N ≤ 8) (h : zIn N a) : a.toInt32 = nI (zpx a) ∧ zpx a < N := by
  have h1 : 0 ≤ a.toInt := by have q := Int64.le_iff_toInt_le.mp h.1; rwa [show (0 : Int64).toInt = 0 by decide] at q
  have h2 : a.toInt < N := by have q := Int64.lt_iff_toInt_lt.mp h.2; rwa [Int32.toInt_toInt64, nI_toInt (by omega)] at q
  have h3 : a.toInt32.toInt = a.toInt := by
    rw [Int64.toInt_toInt32]
    exact Int.bmod_eq_of_le (by omega) (by omega)
  have h0 : 0 ≤ a.toInt32 := Int32.le_iff_toInt_le.mpr (by rw [h3, show (0 : Int32).toInt = 0 by decide]; exact h1)
  have h4 := nI_nat h0
  exact ⟨h4, nI_nat_lt h0 (Int32.lt_iff_toInt_lt.mpr (by rw [h3, nI_toInt (by omega)]; exact h2)) (by omega)⟩
/-- putAbove: good or not -/
def zpg (N : Nat) (B : Nat → Int32) (a b : Int64) : Bool := zInB N a && (zInB N b && (!(decide (a.toInt32 = b.toInt32)) && !(zbl B (zpx a) (zpx b))))
theorem zpg_1 {N : Nat} {B : Nat → Int32} {a b : Int64} (h : ¬ zIn N a) : zpg N B a b = false := by unfold zpg; rw [zInB_f h, Bool.false_and]
theorem zpg_2 {N : Nat} {B : Nat → Int32} {a b : Int64} (h : ¬ zIn N b) : zpg N B a b = false := by unfold zpg; rw [zInB_f h, Bool.false_and, Bool.and_false]
theorem zpg_3 {N : Nat} {B : Nat → Int32} {a b : Int64} (h : a.toInt32 = b.toInt32) : zpg N B a b = false := by unfold zpg; rw [decide_eq_true h, Bool.not_true, Bool.false_and, Bool.and_false, Bool.and_false]
theorem zpg_4 {N : Nat} {B : Nat → Int32} {a b : Int64} (h : zbl B (zpx a) (zpx b) = true) : zpg N B a b = false := by unfold zpg; rw [h, Bool.not_true, Bool.and_false, Bool.and_false, Bool.and_false]
theorem zpg_5 {N : Nat} {B : Nat → Int32} {a b : Int64} (h1 : zIn N a) (h2 : zIn N b) (h3 : ¬ a.toInt32 = b.toInt32) (h4 : ¬ zbl B (zpx a) (zpx b) = true) : zpg N B a b = true := by
  unfold zpg
  rw [zInB_t h1, zInB_t h2, decide_eq_false h3, Bool.eq_false_iff.mpr h4]
  rfl
def zpt (N : Nat) (B : Nat → Int32) (a b : Int64) : Nat → Int32 := zpn N B (zpx a) (zpx b) N
/-- the twos told one after another -/
def zcl (N : Nat) (r1 r2 : Nat → Int64) : Nat → Nat → Int32
  | 0 => fun _ => 0
  | k + 1 => zpt N (zcl N r1 r2 k) (r1 k) (r2 k)
def zclB (N : Nat) (r1 r2 : Nat → Int64) (k : Nat) : Bool := !(zpg N (zcl N r1 r2 k) (r1 k) (r2 k))
def zclash (N : Nat) (r1 r2 : Nat → Int64) (n : Nat) : Option Nat := zfind (zclB N r1 r2) n
theorem zcl_t {N : Nat} {B : Nat → Int32} (r1 r2 : Nat → Int64) : ∀ (k j : Nat), N ≤ j → zcl N r1 r2 k j = 0
  | 0, j, h => rfl
  | k + 1, j, h => by
    show (if _ then _ else _) = _
    rw [if_neg (fun q => absurd q.1 (by omega))]
    exact zcl_t (B := B) r1 r2 k j h
/-- orders -/
def zun (B : Nat → Int32) (x y : Int32) (i : Nat) : Int32 := if nI i = x ∧ 0 ≤ y then B i ||| ((1 : Int32) <<< (y &&& 31)) else B i
def zst (B : Nat → Int32) (x y : Int32) (s i : Nat) : Bool := decide ((nI s >>> (nI i &&& 31)) &&& 1 = 0) && decide (zun B x y i &&& (nI s ^^^ (-1)) = 0)
def zci (B : Nat → Int32) (x y : Int32) (s : Nat) (W : Nat → Int32) : Nat → Nat → Int32
  | 0 => W
  | i + 1 => if zst B x y s i = true then va_up (zci B x y s W i) (s ||| 2 ^ i) (zci B x y s W i (s ||| 2 ^ i) + W s) else zci B x y s W i
def zcs (B : Nat → Int32) (x y : Int32) (N : Nat) : Nat → Nat → Int32
  | 0 => va_up (fun _ => 0) 0 1
  | s + 1 => zci B x y s (zcs B x y N s) N
def zco (B : Nat → Int32) (x y : Int32) (N : Nat) : Int32 := zcs B x y N (2 ^ N) (2 ^ N - 1)
theorem zor_n : ∀ s, s < 256 → ∀ i, i < 8 → nI s ||| ((1 : Int32) <<< (nI i &&& 31)) = nI (s ||| 2 ^ i) := by decide +kernel
theorem zor_b : ∀ s, s < 256 → ∀ i, i < 8 → (nI s >>> (nI i &&& 31)) &&& 1 = 0 → ¬ (s ||| 2 ^ i) = s := by decide +kernel
theorem zor_l : ∀ s, s < 256 → ∀ i, i < 8 → s ||| 2 ^ i < 256 := by decide +kernel
theorem zci_s {B : Nat → Int32} {x y : Int32} {s : Nat} {W : Nat → Int32} (hs : s < 256) : ∀ i, i ≤ 8 → zci B x y s W i s = W s
  | 0, _ => rfl
  | i + 1, h => by
    unfold zci
    by_cases hq : zst B x y s i = true
    · rw [if_pos hq, az_up_ne (fun q => zor_b s hs i (by omega) (of_decide_eq_true (Bool.and_eq_true_iff.mp hq).1) q.symm)]
      exact zci_s hs i (by omega)
    · rw [if_neg hq]
      exact zci_s hs i (by omega)
theorem zci_z {B : Nat → Int32} {x y : Int32} {s : Nat} {W : Nat → Int32} (h : W s = 0) : ∀ i, zci B x y s W i = W
  | 0 => rfl
  | i + 1 => by
    unfold zci
    rw [zci_z h i]
    by_cases hq : zst B x y s i = true
    · rw [if_pos hq, h, Int32.add_zero, az_up_id]
    · rw [if_neg hq]
theorem zci_y {B : Nat → Int32} {x y : Int32} {s i : Nat} {W : Nat → Int32} (h : zst B x y s i = true) : zci B x y s W (i + 1) = va_up (zci B x y s W i) (s ||| 2 ^ i) (zci B x y s W i (s ||| 2 ^ i) + W s) := if_pos h
theorem zci_n {B : Nat → Int32} {x y : Int32} {s i : Nat} {W : Nat → Int32} (h : ¬ zst B x y s i = true) : zci B x y s W (i + 1) = zci B x y s W i := if_neg h
/-- the best two -/
def zbs (B : Nat → Int32) (N : Nat) (i j : Nat) (z : Int32 × Int32) : Int32 × Int32 :=
  if zbl B i j = true ∨ zbl B j i = true then z
  else if z.1 = -1 ∨ mxI (zco B (nI i) (nI j) N) (zco B (-1) (-1) N - zco B (nI i) (nI j) N) < z.2 then (10 * nI i + nI j, mxI (zco B (nI i) (nI j) N) (zco B (-1) (-1) N - zco B (nI i) (nI j) N)) else z
def zbj (B : Nat → Int32) (N i : Nat) (z : Int32 × Int32) : Nat → Int32 × Int32
  | 0 => z
  | m + 1 => zbs B N i (i + 1 + m) (zbj B N i z m)
def zbo (B : Nat → Int32) (N : Nat) : Nat → Int32 × Int32
  | 0 => (-1, 0)
  | i + 1 => zbj B N i (zbo B N i) (N - (i + 1))
def zors (B : Nat → Int32) : Nat → Int32
  | 0 => 0
  | i + 1 => zors B i ||| B i
