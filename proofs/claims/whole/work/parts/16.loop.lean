/-! forgetting locals; going on with the same under another text -/
def az_le : List (Option Value) → List (Option Value) → Prop
  | [], _ => True
  | none :: l, _ :: k => az_le l k
  | some v :: l, x :: k => x = some v ∧ az_le l k
  | _ :: _, [] => False
theorem az_le_at : ∀ (l k : List (Option Value)), az_le l k → ∀ (i : Nat) (v : Value), l[i]? = some (some v) → k[i]? = some (some v)
  | [], _, _, i, v, h => by simp at h
  | none :: l, [], hl, i, v, h => by exact absurd hl (by simp [az_le])
  | some w :: l, [], hl, i, v, h => by exact absurd hl (by simp [az_le])
  | none :: l, x :: k, hl, i, v, h => by
    cases i with
    | zero => cases h
    | succ i => exact az_le_at l k hl i v h
  | some w :: l, x :: k, hl, i, v, h => by
    cases i with
    | zero =>
      rw [hl.1]
      exact h
    | succ i => exact az_le_at l k hl.2 i v h
section AzL
variable {l : Launch} {G : az_Gh} {M : az_Md} {d : Nat} {F : az_Fn} {bc bs pc : Nat} {lo lo2 : List (Option Value)} {st : List Value} {S : az_St}
theorem A_forget (h : az_le lo2 lo) (kk : AW l G M d F bc bs pc lo2 st S) : AW l G M d F bc bs pc lo st S := by
  intro p e s m args below meth c H locs cells slots mc ms ls hC hH hS h1 h2 hl
  exact kk p e s m args below meth c H locs cells slots mc ms ls hC hH hS h1 h2 ⟨hl.1, hl.2.1, fun i v hi => hl.2.2 i v (az_le_at _ _ h i v hi)⟩
theorem A_S {S2 : az_St} (h : S = S2) (kk : AW l G M d F bc bs pc lo st S2) : AW l G M d F bc bs pc lo st S := by subst h; exact kk
end AzL
theorem az_w_at (s : Nat → Nat → Int32) (k j : Nat) (x : Int32) : az_w s k j x k j = x := by unfold az_w; rw [az_up_self, az_up_self]
theorem az_w_nj {s : Nat → Nat → Int32} {k j i : Nat} {x : Int32} (h : i ≠ j) : az_w s k j x k i = s k i := by unfold az_w; rw [az_up_self, az_up_ne h]
theorem az_w_up (s : Nat → Nat → Int32) (k j : Nat) (f : Nat → Int32) (x : Int32) : az_w (va_up s k f) k j x = va_up s k (va_up f j x) := by
  unfold az_w
  rw [az_up_self]
  funext i
  by_cases h : i = k
  · subst h; rw [az_up_self, az_up_self]
  · rw [az_up_ne h, az_up_ne h, az_up_ne h]
theorem az_up_up {α : Type} (f : Nat → α) (k : Nat) (v w : α) : va_up (va_up f k v) k w = va_up f k w := by
  funext i
  by_cases h : i = k
  · subst h; rw [az_up_self, az_up_self]
  · rw [az_up_ne h, az_up_ne h, az_up_ne h]
theorem az_up_id {α : Type} (f : Nat → α) (k : Nat) : va_up f k (f k) = f := by
  funext i
  by_cases h : i = k
  · subst h; rw [az_up_self]
  · rw [az_up_ne h]
theorem az_up_sw {α : Type} (f : Nat → α) {i k : Nat} (h : i ≠ k) (v w : α) : va_up (va_up f i v) k w = va_up (va_up f k w) i v := by
  funext j
  by_cases h1 : j = k
  · subst h1; rw [az_up_self, az_up_ne (Ne.symm h), az_up_self]
  · rw [az_up_ne h1]
    by_cases h2 : j = i
    · subst h2; rw [az_up_self, az_up_self]
    · rw [az_up_ne h2, az_up_ne h2, az_up_ne h1]
theorem nI_lt8 {n : Nat} (h : n ≤ 8) : n < 2 ^ 31 := by omega
theorem oI_le (q : Option Nat) (h : ∀ k, q = some k → k < 2 ^ 31) : -1 ≤ oI q := by
  cases q with
  | none => exact Int32.le_refl _
  | some k => exact Int32.le_trans (by decide) (nI_pos' (h k rfl))
section AzM
variable {l : Launch} {G : az_Gh} {M : az_Md} {d : Nat} {F : az_Fn} {bc bs pc : Nat} {lo : List (Option Value)} {st : List Value} {S : az_St}
theorem A_mx0 {y : Int32} {idx : Nat} (hd : decode M.2.1 pc = .ok (.invokestatic idx, 3)) (hw : Cond.methodLink M.1.cls idx Lib.Math.max.name ∈ az_tb) (hdd : 1 ≤ d) (hcat : (st.map fun v => v.category).sum ≤ 8) (kk : AW l G M d F bc bs (pc + 3) lo (.int (mx0 y) :: st) S) : AW l G M d F bc bs pc lo (.int y :: .int 0 :: st) S := A_max hd hw w_max1 w_math w_max2 hdd hcat kk
def mxI (x y : Int32) : Int32 := if x < y then y else x
def mnI (x y : Int32) : Int32 := if y < x then y else x
theorem A_mxI {x y : Int32} {idx : Nat} (hd : decode M.2.1 pc = .ok (.invokestatic idx, 3)) (hw : Cond.methodLink M.1.cls idx Lib.Math.max.name ∈ az_tb) (hdd : 1 ≤ d) (hcat : (st.map fun v => v.category).sum ≤ 8) (kk : AW l G M d F bc bs (pc + 3) lo (.int (mxI x y) :: st) S) : AW l G M d F bc bs pc lo (.int y :: .int x :: st) S := A_max hd hw w_max1 w_math w_max2 hdd hcat kk
theorem A_mnI {x y : Int32} {idx : Nat} (hd : decode M.2.1 pc = .ok (.invokestatic idx, 3)) (hw : Cond.methodLink M.1.cls idx Lib.Math.min.name ∈ az_tb) (hdd : 1 ≤ d) (hcat : (st.map fun v => v.category).sum ≤ 8) (kk : AW l G M d F bc bs (pc + 3) lo (.int (mnI x y) :: st) S) : AW l G M d F bc bs pc lo (.int y :: .int x :: st) S := A_min hd hw w_min1 w_math w_min2 hdd hcat kk
end AzM
theorem az_ne {t : Int32} {lo hi : Int} (h : t.toInt < lo ∨ hi < t.toInt) (v : Int32) (h1 : lo ≤ v.toInt) (h2 : v.toInt ≤ hi) : ¬ t = v := by
  intro e
  subst e
  omega
theorem zcold_1 (a b f air : Int32) (lv : Bool) : zcold 1 a b f air lv = mx0 (mx0 (40 - air - f) - a) := by simp [zcold]
theorem zcold_2 (a b f air : Int32) (lv : Bool) : zcold 2 a b f air lv = mx0 (40 - air - f) + a := by simp [zcold]
theorem zcold_3 (a b f air : Int32) (lv : Bool) : zcold 3 a b f air lv = mx0 (mx0 (mx0 (40 - air - f) - a) - 2 * b) := by simp [zcold]
theorem zcold_4 (a b f air : Int32) (lv : Bool) : zcold 4 a b f air lv = if lv = true then mx0 (mx0 (40 - air - f) + a - 10) else mx0 (40 - air - f) + a := by simp [zcold]
theorem zcold_5 (a b f air : Int32) (lv : Bool) : zcold 5 a b f air lv = mx0 (40 - air - f) + 5 := by simp [zcold]
theorem zlim_1 (a p : Int32) : zlim 1 a p = 10 + 2 * p := by simp [zlim]
theorem zlim_2 (a p : Int32) : zlim 2 a p = 5 + p := by simp [zlim]
theorem zlim_3 (a p : Int32) : zlim 3 a p = 10 + 2 * p + a := by simp [zlim]
theorem zlim_4 (a p : Int32) : zlim 4 a p = 35 := by simp [zlim]
theorem zlim_5 (a p : Int32) : zlim 5 a p = 10 := by simp [zlim]
