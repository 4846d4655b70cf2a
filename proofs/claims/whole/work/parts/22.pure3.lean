theorem nI_nat {x : Int32} (h : 0 ≤ x) : x = nI x.toNatClampNeg := by
  obtain ⟨j, hj, rfl⟩ := nI_of (Int32.not_lt.mpr h)
  rw [nI_clamp hj]
theorem nI_nat_lt {x : Int32} {n : Nat} (h : 0 ≤ x) (h2 : x < nI n) (hn : n < 2 ^ 31) : x.toNatClampNeg < n := by
  obtain ⟨j, hj, rfl⟩ := nI_of (Int32.not_lt.mpr h)
  rw [nI_clamp hj]
  exact (nI_ltI hj hn).mp h2
/-- n places from 0 on hold x -/
def zfill {α : Type} (f : Nat → α) (n : Nat) (x : α) : Nat → α := fun j => if j < n then x else f j
theorem zfill_0 {α : Type} (f : Nat → α) (x : α) : zfill f 0 x = f := funext fun j => if_neg (by omega)
theorem zfill_s {α : Type} (f : Nat → α) (n : Nat) (x : α) : va_up (zfill f n x) n x = zfill f (n + 1) x := by
  funext j
  unfold zfill
  by_cases h : j = n
  · subst h; rw [az_up_self, if_pos (by omega)]
  · rw [az_up_ne h]
    by_cases h2 : j < n
    · rw [if_pos h2, if_pos (by omega)]
    · rw [if_neg h2, if_neg (by omega)]
theorem az_wL_up (s : Nat → Nat → Int64) (k j : Nat) (f : Nat → Int64) (x : Int64) : az_wL (va_up s k f) k j x = va_up s k (va_up f j x) := by
  unfold az_wL
  rw [az_up_self, az_up_up]
theorem az_sw04 (t : Int32) : t = 0 ∨ t = 1 ∨ t = 2 ∨ t = 3 ∨ t = 4 ∨ (t.toInt < 0 ∨ 4 < t.toInt) := by
  by_cases h1 : t.toInt = 0
  · exact Or.inl (az_toI h1 (by decide))
  by_cases h2 : t.toInt = 1
  · exact Or.inr (Or.inl (az_toI h2 (by decide)))
  by_cases h3 : t.toInt = 2
  · exact Or.inr (Or.inr (Or.inl (az_toI h3 (by decide))))
  by_cases h4 : t.toInt = 3
  · exact Or.inr (Or.inr (Or.inr (Or.inl (az_toI h4 (by decide)))))
  by_cases h5 : t.toInt = 4
  · exact Or.inr (Or.inr (Or.inr (Or.inr (Or.inl (az_toI h5 (by decide))))))
  exact Or.inr (Or.inr (Or.inr (Or.inr (Or.inr (by omega)))))
/-- what a row of a sort keeps of a number -/
def zfit (t : Int32) (v : Int64) : Int64 := if t = 0 then v.toInt32.toInt8.toInt32.toInt64 else if t = 1 then v.toInt32.toInt16.toInt32.toInt64 else if t = 2 then v.toInt32.toInt64 else if t = 4 then (if v = 0 then 0 else 1) else v
theorem zfit_0 (v : Int64) : zfit 0 v = v.toInt32.toInt8.toInt32.toInt64 := by simp [zfit]
theorem zfit_1 (v : Int64) : zfit 1 v = v.toInt32.toInt16.toInt32.toInt64 := by simp [zfit]
theorem zfit_2 (v : Int64) : zfit 2 v = v.toInt32.toInt64 := by simp [zfit]
theorem zfit_3 (v : Int64) : zfit 3 v = v := by simp [zfit]
theorem zfit_4 (v : Int64) : zfit 4 v = if v = 0 then 0 else 1 := by simp [zfit]
theorem lcmp_0 {x y : Int64} : lg_cmp x y = 0 ↔ x = y := by
  unfold lg_cmp
  split
  · rename_i h; exact ⟨fun q => absurd q (by decide), fun q => by subst q; exact absurd h (Int64.lt_irrefl)⟩
  · split
    · rename_i h; exact ⟨fun _ => h, fun _ => rfl⟩
    · rename_i h; exact ⟨fun q => absurd q (by decide), fun q => absurd q h⟩
/-- element i of a shelf's row; 0: none -/
def zat (sg : Nat → Nat → Int32) (la : Nat → Nat → Int64) (o : Nat) (i : Int32) : Int64 := if 0 ≤ i ∧ i < sg o 2 then la (o + 1) i.toNatClampNeg else 0
def zbc1 (x : Int32) : Int32 := x - ((x.toUInt32 >>> (Int32.toUInt32 1 &&& Int32.toUInt32 31)).toInt32 &&& 1431655765)
def zbc2 (x : Int32) : Int32 := (x &&& 858993459) + ((x.toUInt32 >>> (Int32.toUInt32 2 &&& Int32.toUInt32 31)).toInt32 &&& 858993459)
def zbc3 (x : Int32) : Int32 := (x + (x.toUInt32 >>> (Int32.toUInt32 4 &&& Int32.toUInt32 31)).toInt32) &&& 252645135
def zbc4 (x : Int32) : Int32 := x + (x.toUInt32 >>> (Int32.toUInt32 8 &&& Int32.toUInt32 31)).toInt32
def zbc5 (x : Int32) : Int32 := x + (x.toUInt32 >>> (Int32.toUInt32 16 &&& Int32.toUInt32 31)).toInt32
def zbc (x : Int32) : Int32 := zbc5 (zbc4 (zbc3 (zbc2 (zbc1 x)))) &&& 63
