/-! the whole tape, pure -/
theorem znx_ge {T : Nat → Int32} {m e : Nat} (h : e ≤ m) : e ≤ znx T m e := Nat.le_trans (zst3_le h).1 (zst3_le h).2.1
theorem zper_el {T : Nat → Int32} {m e : Nat} {c : CT} (h : e ≤ m) : e ≤ (zper T m e c).2.1 ∧ (zper T m e c).2.1 ≤ m := by
  have h1 := znx_ge (T := T) h
  have h2 := znx_le (T := T) h
  have h3 := znx_ge (T := T) h2
  have h4 := znx_le (T := T) h2
  by_cases q1 : znum T m e 5 = -1
  · rw [zper_1 q1]; exact ⟨Nat.le_refl _, h⟩
  · by_cases q2 : znum T m (znx T m e) 9 = -1
    · rw [zper_2 q1 q2]; exact ⟨h1, h2⟩
    · by_cases q3 : znum T m (znx T m (znx T m e)) 20 = -1
      · rw [zper_3 q1 q2 q3]; exact ⟨Nat.le_trans h1 h3, h4⟩
      · rw [zper_4 q1 q2 q3]; exact ⟨Nat.le_trans h1 h3, h4⟩
theorem zpor_el {T : Nat → Int32} {m e : Nat} {f : Nat → Int32} {N : Nat} {most : Int32} (h : e ≤ m) : e ≤ (zpor T m e f N most).2.1 ∧ (zpor T m e f N most).2.1 ≤ m := by
  have h1 := znx_ge (T := T) h
  have h2 := znx_le (T := T) h
  by_cases q1 : znum T m e (nI N - 1) = -1
  · rw [zpor_1 q1]; exact ⟨Nat.le_refl _, h⟩
  · by_cases q2 : znum T m (znx T m e) most = -1
    · rw [zpor_2 q1 q2]; exact ⟨h1, h2⟩
    · rw [show zpor T m e f N most = (true, znx T m e, va_up f (znum T m e (nI N - 1)).toNatClampNeg (znum T m (znx T m e) most)) from (if_neg q1).trans (if_neg q2)]
      exact ⟨h1, h2⟩
theorem zchg_el {T : Nat → Int32} {m e : Nat} {c : CT} {w : Nat} (h : e ≤ m) : znx T m e ≤ (zchg T m e c w).2.1 ∧ (zchg T m e c w).2.1 ≤ m := by
  unfold zchg
  by_cases q : znum T m (znx T m e) (zmt w) = -1
  · rw [if_pos q]; exact ⟨Nat.le_refl _, znx_le h⟩
  · rw [if_neg q]; exact ⟨Nat.le_refl _, znx_le h⟩
theorem zwk_1 {T : Nat → Int32} {m e k : Nat} (h : e ≤ m) (hw : zwk T m e k = true) : e + 1 ≤ znx T m e := by
  have h1 : (zst3 T m e).1 = 1 := of_decide_eq_true (Bool.and_eq_true_iff.mp hw).1
  have hs := (zst3_le (T := T) h).1
  unfold znx
  by_cases q1 : m ≤ zss T m e
  · rw [zst3_0 q1] at h1; exact absurd (show (0 : Int32) = 1 from h1) (by decide)
  · by_cases q2 : zss T m e < zsl T m e
    · rw [zst3_1 q1 q2]; show e + 1 ≤ zsl T m e; omega
    · by_cases q3 : zss T m e < zsd T m e
      · rw [zst3_2 q1 q2 q3] at h1; exact absurd (show (2 : Int32) = 1 from h1) (by decide)
      · rw [zst3_3 q1 q2 q3]; show e + 1 ≤ zss T m e + 1; omega
theorem zstm_el {T : Nat → Int32} {m e : Nat} {c : CT} (h : e ≤ m) : (zstm T m e c).2.1 ≤ m ∧ ((zstm T m e c).1 = true → e + 1 ≤ znx T m (zstm T m e c).2.1) := by
  have hx := znx_le (T := T) h
  unfold zstm
  by_cases w0 : zwk T m e 0 = true
  · rw [if_pos w0]
    have hg := zwk_1 h w0
    by_cases h7 : cN c < 8
    · rw [if_pos h7]
      have q := zper_el (T := T) (c := c) hx
      exact ⟨q.2, fun _ => Nat.le_trans (Nat.le_trans hg q.1) (znx_ge q.2)⟩
    · rw [if_neg h7]; exact ⟨h, fun q => by cases q⟩
  · rw [if_neg w0]
    by_cases w1 : zwk T m e 1 = true
    · rw [if_pos w1]
      have hg := zwk_1 h w1
      have q := zpor_el (T := T) (f := cFe c) (N := cN c) (most := 40) hx
      exact ⟨q.2, fun _ => Nat.le_trans (Nat.le_trans hg q.1) (znx_ge q.2)⟩
    · rw [if_neg w1]
      by_cases w2 : zwk T m e 2 = true
      · rw [if_pos w2]
        have hg := zwk_1 h w2
        have q := zpor_el (T := T) (f := cBr c) (N := cN c) (most := 9) hx
        exact ⟨q.2, fun _ => Nat.le_trans (Nat.le_trans hg q.1) (znx_ge q.2)⟩
      · rw [if_neg w2]
        by_cases w3 : zwk T m e 3 = true
        · rw [if_pos w3]
          have q := zchg_el (T := T) (c := c) (w := 0) h
          exact ⟨q.2, fun _ => Nat.le_trans (Nat.le_trans (zwk_1 h w3) q.1) (znx_ge q.2)⟩
        · rw [if_neg w3]
          by_cases w4 : zwk T m e 4 = true
          · rw [if_pos w4]
            have q := zchg_el (T := T) (c := c) (w := 1) h
            exact ⟨q.2, fun _ => Nat.le_trans (Nat.le_trans (zwk_1 h w4) q.1) (znx_ge q.2)⟩
          · rw [if_neg w4]
            by_cases w5 : zwk T m e 5 = true
            · rw [if_pos w5]
              have q := zchg_el (T := T) (c := c) (w := 2) h
              exact ⟨q.2, fun _ => Nat.le_trans (Nat.le_trans (zwk_1 h w5) q.1) (znx_ge q.2)⟩
            · rw [if_neg w5]
              by_cases w6 : zwk T m e 6 = true
              · rw [if_pos w6]
                have q := zchg_el (T := T) (c := c) (w := 3) h
                exact ⟨q.2, fun _ => Nat.le_trans (Nat.le_trans (zwk_1 h w6) q.1) (znx_ge q.2)⟩
              · rw [if_neg w6]; exact ⟨h, fun q => by cases q⟩
theorem zst3_sg {T : Nat → Int32} {m e : Nat} (h : e ≤ m) (h3 : (zst3 T m e).1 = 3) : e + 1 ≤ znx T m e := by
  have hs := (zst3_le (T := T) h).1
  unfold znx
  by_cases q1 : m ≤ zss T m e
  · rw [zst3_0 q1] at h3; exact absurd (show (0 : Int32) = 3 from h3) (by decide)
  · by_cases q2 : zss T m e < zsl T m e
    · rw [zst3_1 q1 q2] at h3; exact absurd (show (1 : Int32) = 3 from h3) (by decide)
    · by_cases q3 : zss T m e < zsd T m e
      · rw [zst3_2 q1 q2 q3] at h3; exact absurd (show (2 : Int32) = 3 from h3) (by decide)
      · rw [zst3_3 q1 q2 q3]; show e + 1 ≤ zss T m e + 1; omega
def zrd (T : Nat → Int32) (m : Nat) : Nat → Nat → Nat → CT → Int32 × CT
  | 0, _, _, c => (-1, c)
  | f + 1, i, e, c =>
    if (zstm T m e c).1 = true then
      if (zst3 T m (znx T m (zstm T m e c).2.1)).1 = 0 then (nI i, (zstm T m e c).2.2)
      else if (zst3 T m (znx T m (zstm T m e c).2.1)).1 = 3 then zrd T m f (i + 1) (znx T m (znx T m (zstm T m e c).2.1)) (zstm T m e c).2.2
      else (-20 - nI (zss T m (znx T m (zstm T m e c).2.1)), (zstm T m e c).2.2)
    else (-20 - nI (zss T m (zstm T m e c).2.1), (zstm T m e c).2.2)
theorem zrd_1 {T : Nat → Int32} {m f i e : Nat} {c : CT} (h : ¬ (zstm T m e c).1 = true) : zrd T m (f + 1) i e c = (-20 - nI (zss T m (zstm T m e c).2.1), (zstm T m e c).2.2) := if_neg h
theorem zrd_2 {T : Nat → Int32} {m f i e : Nat} {c : CT} (h : (zstm T m e c).1 = true) (h2 : (zst3 T m (znx T m (zstm T m e c).2.1)).1 = 0) : zrd T m (f + 1) i e c = (nI i, (zstm T m e c).2.2) := (if_pos h).trans (if_pos h2)
theorem zrd_3 {T : Nat → Int32} {m f i e : Nat} {c : CT} (h : (zstm T m e c).1 = true) (h2 : ¬ (zst3 T m (znx T m (zstm T m e c).2.1)).1 = 0) (h3 : ¬ (zst3 T m (znx T m (zstm T m e c).2.1)).1 = 3) : zrd T m (f + 1) i e c = (-20 - nI (zss T m (znx T m (zstm T m e c).2.1)), (zstm T m e c).2.2) := (if_pos h).trans ((if_neg h2).trans (if_neg h3))
theorem zrd_4 {T : Nat → Int32} {m f i e : Nat} {c : CT} (h : (zstm T m e c).1 = true) (h2 : ¬ (zst3 T m (znx T m (zstm T m e c).2.1)).1 = 0) (h3 : (zst3 T m (znx T m (zstm T m e c).2.1)).1 = 3) : zrd T m (f + 1) i e c = zrd T m f (i + 1) (znx T m (znx T m (zstm T m e c).2.1)) (zstm T m e c).2.2 := (if_pos h).trans ((if_neg h2).trans (if_pos h3))
