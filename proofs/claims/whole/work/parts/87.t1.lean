def mTk (u : Nat → Nat → Int32) (a t f g : Int32) : Nat → Nat → Int32 := az_w (az_w (az_w (az_w u 60 23 a) 60 24 t) 60 25 f) 60 26 g
theorem mTk_26 (u : Nat → Nat → Int32) (a t f g : Int32) : mTk u a t f g 60 26 = g := az_w_at _ _ _ _
theorem mTk_25 (u : Nat → Nat → Int32) (a t f g : Int32) : mTk u a t f g 60 25 = f := by unfold mTk; rw [az_w_nj (by decide), az_w_at]
theorem mTk_24 (u : Nat → Nat → Int32) (a t f g : Int32) : mTk u a t f g 60 24 = t := by unfold mTk; rw [az_w_nj (by decide), az_w_nj (by decide), az_w_at]
theorem mTk_23 (u : Nat → Nat → Int32) (a t f g : Int32) : mTk u a t f g 60 23 = a := by unfold mTk; rw [az_w_nj (by decide), az_w_nj (by decide), az_w_nj (by decide), az_w_at]
theorem mTk_o {u : Nat → Nat → Int32} {a t f g : Int32} {j : Nat} (h : j ≠ 23 ∧ j ≠ 24 ∧ j ≠ 25 ∧ j ≠ 26) : mTk u a t f g 60 j = u 60 j := by unfold mTk; rw [az_w_nj h.2.2.2, az_w_nj h.2.2.1, az_w_nj h.2.1, az_w_nj h.1]
theorem mTk_ne {u : Nat → Nat → Int32} {a t f g : Int32} {k : Nat} (h : k ≠ 60) : mTk u a t f g k = u k := by unfold mTk; rw [az_w_ne h, az_w_ne h, az_w_ne h, az_w_ne h]
theorem mTk_w26 (u : Nat → Nat → Int32) (a t f g x : Int32) : az_w (mTk u a t f g) 60 26 x = mTk u a t f x := az_w_w _ _ _ _ _
theorem mTk_w25 (u : Nat → Nat → Int32) (a t f g x : Int32) : az_w (mTk u a t f g) 60 25 x = mTk u a t x g := by unfold mTk; rw [az_w_sw (by decide), az_w_w]
theorem mTk_w24 (u : Nat → Nat → Int32) (a t f g x : Int32) : az_w (mTk u a t f g) 60 24 x = mTk u a x f g := by unfold mTk; rw [az_w_sw (by decide), az_w_sw (i := 25) (by decide), az_w_w]
theorem mTk_w23 (u : Nat → Nat → Int32) (a t f g x : Int32) : az_w (mTk u a t f g) 60 23 x = mTk u x t f g := by unfold mTk; rw [az_w_sw (by decide), az_w_sw (i := 25) (by decide), az_w_sw (i := 24) (by decide), az_w_w]
theorem mTk_0 (u : Nat → Nat → Int32) : u = mTk u (u 60 23) (u 60 24) (u 60 25) (u 60 26) := by
  unfold mTk
  rw [az_w_id, az_w_id, az_w_id, az_w_id]
theorem sC.tk {s u : Nat → Nat → Int32} (h : sC s u) (a t f g : Int32) : sC s (mTk u a t f g) := (((h.w (j := 23) rfl _).w (j := 24) rfl _).w (j := 25) rfl _).w (j := 26) rfl _
theorem zrun_f {p : Nat → Bool} {m e : Nat} (h : e ≤ m) (hp : p e = false) : zrun p m e = e := by
  obtain ⟨h1, h2, h3, h4⟩ := zrun_facts p h
  rcases Nat.lt_or_ge e (zrun p m e) with q | q
  · rw [h3 e (Nat.le_refl _) q] at hp; cases hp
  · omega
theorem zrun_t {p : Nat → Bool} {m e : Nat} (h : e < m) (hp : p e = true) : e < zrun p m e := by
  obtain ⟨h1, h2, h3, h4⟩ := zrun_facts p (Nat.le_of_lt h)
  rcases Nat.lt_or_ge e (zrun p m e) with q | q
  · exact q
  · have e1 : zrun p m e = e := by omega
    have := h4 (by omega)
    rw [e1, hp] at this
    cases this
def zfk (T : Nat → Int32) (s k : Nat) : Int32 := if k ≤ 3 then zvl T s k else 1000
theorem zfk_s {T : Nat → Int32} {s k : Nat} (h : k < 3) : zfk T s k * 10 + T (s + k) - 48 = zfk T s (k + 1) := by
  unfold zfk
  rw [if_pos (by omega), if_pos (by omega), Int32.mul_comm]
  rfl
theorem zfk_t {T : Nat → Int32} {s k : Nat} (h : ¬ k < 3) : 1000 = zfk T s (k + 1) := by
  unfold zfk
  rw [if_neg (by omega)]
def zfg (T : Nat → Int32) (m e : Nat) : Int32 := if (zst3 T m e).1 = 2 then zfk T (zss T m e) ((zst3 T m e).2 - zss T m e) else 0
set_option maxHeartbeats 600000 in
set_option maxRecDepth 100000 in
theorem c_X8_isLetter (l : Launch) (G : az_Gh) (d : Nat) (sh : List az_Sh) (sg : Nat → Nat → Int32) (la : Nat → Nat → Int64) (x : Int32)  : FM l G (d) mX8_isLetter [.int x] (sh, sg, la) (some (.int (b2i ((decide (97 ≤ x) && decide (x ≤ 122)) = true)))) (sh, sg, la) := by
  refine az_fm knX8_isLetter (Nat.le_of_ble_eq_true rfl) rfl (fun Post hP => ?_)
  show AW l G mX8_isLetter (d) (az_F G Post) 0 0 0 [some (.int x)] [] (sh, sg, la)
  refine A_iload_n dX8_isLetter_0 rfl rfl ?_
  refine A_bipush (v := 97) dX8_isLetter_1 (by decide) ?_
  refine A_icmp_lt (tgt := 16) dX8_isLetter_3 rfl (fun h_1 => ?_) (fun h_1 => ?_)
  · skip
    refine A_iconst (v := 0) dX8_isLetter_16 (by decide) ?_
    refine A_zret dX8_isLetter_17 rfl (rfl) (az_pi hP ?_ (rfl))
    exact b2i_f (by rw [decide_eq_false (Int32.not_le.mpr h_1), Bool.false_and]; decide)
  · skip
    refine A_iload_n dX8_isLetter_6 rfl rfl ?_
    refine A_bipush (v := 122) dX8_isLetter_7 (by decide) ?_
    refine A_icmp_gt (tgt := 16) dX8_isLetter_9 rfl (fun h_2 => ?_) (fun h_2 => ?_)
    · skip
      refine A_iconst (v := 0) dX8_isLetter_16 (by decide) ?_
      refine A_zret dX8_isLetter_17 rfl (rfl) (az_pi hP ?_ (rfl))
      exact b2i_f (by rw [decide_eq_false (Int32.not_le.mpr h_2), Bool.and_false]; decide)
    · skip
      refine A_iconst (v := 1) dX8_isLetter_12 (by decide) ?_
      refine A_goto (tgt := 17) dX8_isLetter_13 rfl ?_
      refine A_zret dX8_isLetter_17 rfl (rfl) (az_pi hP ?_ (rfl))
      exact b2i_t (by rw [decide_eq_true (Int32.not_lt.mp h_1), decide_eq_true (Int32.not_lt.mp h_2)]; rfl)
set_option maxHeartbeats 600000 in
set_option maxRecDepth 100000 in
theorem c_X8_isDigit (l : Launch) (G : az_Gh) (d : Nat) (sh : List az_Sh) (sg : Nat → Nat → Int32) (la : Nat → Nat → Int64) (x : Int32)  : FM l G (d) mX8_isDigit [.int x] (sh, sg, la) (some (.int (b2i ((decide (48 ≤ x) && decide (x ≤ 57)) = true)))) (sh, sg, la) := by
  refine az_fm knX8_isDigit (Nat.le_of_ble_eq_true rfl) rfl (fun Post hP => ?_)
  show AW l G mX8_isDigit (d) (az_F G Post) 0 0 0 [some (.int x)] [] (sh, sg, la)
  refine A_iload_n dX8_isDigit_0 rfl rfl ?_
  refine A_bipush (v := 48) dX8_isDigit_1 (by decide) ?_
  refine A_icmp_lt (tgt := 16) dX8_isDigit_3 rfl (fun h_1 => ?_) (fun h_1 => ?_)
  · skip
    refine A_iconst (v := 0) dX8_isDigit_16 (by decide) ?_
    refine A_zret dX8_isDigit_17 rfl (rfl) (az_pi hP ?_ (rfl))
    exact b2i_f (by rw [decide_eq_false (Int32.not_le.mpr h_1), Bool.false_and]; decide)
  · skip
    refine A_iload_n dX8_isDigit_6 rfl rfl ?_
    refine A_bipush (v := 57) dX8_isDigit_7 (by decide) ?_
    refine A_icmp_gt (tgt := 16) dX8_isDigit_9 rfl (fun h_2 => ?_) (fun h_2 => ?_)
    · skip
      refine A_iconst (v := 0) dX8_isDigit_16 (by decide) ?_
      refine A_zret dX8_isDigit_17 rfl (rfl) (az_pi hP ?_ (rfl))
      exact b2i_f (by rw [decide_eq_false (Int32.not_le.mpr h_2), Bool.and_false]; decide)
    · skip
      refine A_iconst (v := 1) dX8_isDigit_12 (by decide) ?_
      refine A_goto (tgt := 17) dX8_isDigit_13 rfl ?_
      refine A_zret dX8_isDigit_17 rfl (rfl) (az_pi hP ?_ (rfl))
      exact b2i_t (by rw [decide_eq_true (Int32.not_lt.mp h_1), decide_eq_true (Int32.not_lt.mp h_2)]; rfl)
