/-! the reference's cells -/
def lyM (o : Nat) (kp tr : Option Nat) : List az_Sh := [(8, 0, [some (some (o + 1)), some (some (o + 2)), some (some (o + 3)), some (some (o + 4)), some (some (o + 13)), some (some (o + 14)), some (some (o + 15)), none, some (some (o + 16)), none, none, none, none, none, none, some (some (o + 17)), some (some (o + 18)), some (some (o + 19)), some (some (o + 20)), some (some (o + 21)), none, some kp, some tr, none, none, none, none, none, some (some (o + 22)), none, none, none, none, some (some (o + 23)), none, none, none, some (some (o + 24)), some (some (o + 25)), none, none, some (some (o + 26))]), (100, 8, []), (100, 8, []), (100, 8, []), (103, 8, [some (some (o + 5)), some (some (o + 6)), some (some (o + 7)), some (some (o + 8)), some (some (o + 9)), some (some (o + 10)), some (some (o + 11)), some (some (o + 12))]), (101, 40, []), (101, 40, []), (101, 40, []), (101, 40, []), (101, 40, []), (101, 40, []), (101, 40, []), (101, 40, []), (101, 40, []), (100, 8, []), (100, 250, []), (100, 8, []), (100, 8, []), (100, 8, []), (100, 8, []), (100, 8, []), (100, 8, []), (100, 3, []), (100, 8, []), (100, 8, []), (100, 256, []), (104, 6, [some (some (o + 27)), some (some (o + 28)), some (some (o + 29)), some (some (o + 30)), some (some (o + 31)), some (some (o + 32))]), (100, 8, []), (100, 8, []), (100, 8, []), (100, 8, []), (100, 8, []), (100, 8, [])]
def mrow (c : CT) (f : Nat → Int32) : Nat → Int32 := fun j => if j = 9 then cAir c else if j = 10 then cFall c else if j = 11 then cDay c else if j = 12 then cWin c else if j = 13 then cCoal c else if j = 14 then cPp c else if j = 20 then cSeed c else if j = 30 then cAway c else f j
def mput (s : Nat → Nat → Int32) (o : Nat) (c : CT) : Nat → Nat → Int32 := fun k => if k = o then mrow c (s o) else if k = o + 17 then cKd c else if k = o + 18 then cAa c else if k = o + 19 then cPr c else if k = o + 20 then cBr c else if k = o + 21 then cFe c else s k
theorem mput_o (s : Nat → Nat → Int32) (o : Nat) (c : CT) : mput s o c o = mrow c (s o) := if_pos rfl
theorem mput_ne {s : Nat → Nat → Int32} {o k : Nat} {c : CT} (h : k ≠ o) (h2 : k < o + 17 ∨ o + 21 < k) : mput s o c k = s k := by
  unfold mput
  rw [if_neg h, if_neg (by omega), if_neg (by omega), if_neg (by omega), if_neg (by omega), if_neg (by omega)]
def mfj (j : Nat) : Bool := j == 9 || j == 10 || j == 11 || j == 12 || j == 13 || j == 14 || j == 20 || j == 30
theorem mrow_out {c : CT} {f : Nat → Int32} {j : Nat} (h : mfj j = false) : mrow c f j = f j := by
  unfold mfj at h
  simp only [Bool.or_eq_false_iff, beq_eq_false_iff_ne] at h
  obtain ⟨⟨⟨⟨⟨⟨⟨h1, h2⟩, h3⟩, h4⟩, h5⟩, h6⟩, h7⟩, h8⟩ := h
  unfold mrow
  rw [if_neg h1, if_neg h2, if_neg h3, if_neg h4, if_neg h5, if_neg h6, if_neg h7, if_neg h8]
theorem mput_f {s : Nat → Nat → Int32} {o j : Nat} {c : CT} (h : mfj j = false) : mput s o c o j = s o j := by rw [mput_o, mrow_out h]
theorem mr_9 (s : Nat → Nat → Int32) (o : Nat) (c : CT) : mput s o c o 9 = cAir c := by rw [mput_o]; rfl
theorem mr_10 (s : Nat → Nat → Int32) (o : Nat) (c : CT) : mput s o c o 10 = cFall c := by rw [mput_o]; rfl
theorem mr_11 (s : Nat → Nat → Int32) (o : Nat) (c : CT) : mput s o c o 11 = cDay c := by rw [mput_o]; rfl
theorem mr_12 (s : Nat → Nat → Int32) (o : Nat) (c : CT) : mput s o c o 12 = cWin c := by rw [mput_o]; rfl
theorem mr_13 (s : Nat → Nat → Int32) (o : Nat) (c : CT) : mput s o c o 13 = cCoal c := by rw [mput_o]; rfl
theorem mr_14 (s : Nat → Nat → Int32) (o : Nat) (c : CT) : mput s o c o 14 = cPp c := by rw [mput_o]; rfl
theorem mr_20 (s : Nat → Nat → Int32) (o : Nat) (c : CT) : mput s o c o 20 = cSeed c := by rw [mput_o]; rfl
theorem mr_30 (s : Nat → Nat → Int32) (o : Nat) (c : CT) : mput s o c o 30 = cAway c := by rw [mput_o]; rfl
theorem ma_17 (s : Nat → Nat → Int32) (o : Nat) (c : CT) : mput s o c (o + 17) = cKd c := by unfold mput; rw [if_neg (by omega), if_pos rfl]
theorem me_17 (s : Nat → Nat → Int32) (o : Nat) (c : CT) (i : Nat) : mput s o c (o + 17) i = cKd c i := congrFun (ma_17 s o c) i
theorem ma_18 (s : Nat → Nat → Int32) (o : Nat) (c : CT) : mput s o c (o + 18) = cAa c := by unfold mput; rw [if_neg (by omega), if_neg (by omega), if_pos rfl]
theorem me_18 (s : Nat → Nat → Int32) (o : Nat) (c : CT) (i : Nat) : mput s o c (o + 18) i = cAa c i := congrFun (ma_18 s o c) i
theorem ma_19 (s : Nat → Nat → Int32) (o : Nat) (c : CT) : mput s o c (o + 19) = cPr c := by unfold mput; rw [if_neg (by omega), if_neg (by omega), if_neg (by omega), if_pos rfl]
theorem me_19 (s : Nat → Nat → Int32) (o : Nat) (c : CT) (i : Nat) : mput s o c (o + 19) i = cPr c i := congrFun (ma_19 s o c) i
theorem ma_20 (s : Nat → Nat → Int32) (o : Nat) (c : CT) : mput s o c (o + 20) = cBr c := by unfold mput; rw [if_neg (by omega), if_neg (by omega), if_neg (by omega), if_neg (by omega), if_pos rfl]
theorem me_20 (s : Nat → Nat → Int32) (o : Nat) (c : CT) (i : Nat) : mput s o c (o + 20) i = cBr c i := congrFun (ma_20 s o c) i
theorem ma_21 (s : Nat → Nat → Int32) (o : Nat) (c : CT) : mput s o c (o + 21) = cFe c := by unfold mput; rw [if_neg (by omega), if_neg (by omega), if_neg (by omega), if_neg (by omega), if_neg (by omega), if_pos rfl]
theorem me_21 (s : Nat → Nat → Int32) (o : Nat) (c : CT) (i : Nat) : mput s o c (o + 21) i = cFe c i := congrFun (ma_21 s o c) i
theorem mput_ext {s t : Nat → Nat → Int32} {o : Nat} {c : CT} (h0 : ∀ j, t o j = mrow c (s o) j) (h17 : t (o + 17) = cKd c) (h18 : t (o + 18) = cAa c) (h19 : t (o + 19) = cPr c) (h20 : t (o + 20) = cBr c) (h21 : t (o + 21) = cFe c) (hn : ∀ k, k ≠ o → (k < o + 17 ∨ o + 21 < k) → t k = s k) : t = mput s o c := by
  funext k
  by_cases e0 : k = o
  · subst e0; rw [mput_o]; exact funext h0
  by_cases e1 : k = o + 17
  · subst e1; rw [ma_17]; exact h17
  by_cases e2 : k = o + 18
  · subst e2; rw [ma_18]; exact h18
  by_cases e3 : k = o + 19
  · subst e3; rw [ma_19]; exact h19
  by_cases e4 : k = o + 20
  · subst e4; rw [ma_20]; exact h20
  by_cases e5 : k = o + 21
  · subst e5; rw [ma_21]; exact h21
  rw [mput_ne e0 (by omega)]
  exact hn k e0 (by omega)
theorem mfj_or {i : Nat} (h : ¬ mfj i = false) : i = 9 ∨ i = 10 ∨ i = 11 ∨ i = 12 ∨ i = 13 ∨ i = 14 ∨ i = 20 ∨ i = 30 := by
  unfold mfj at h
  simp only [Bool.not_eq_false, Bool.or_eq_true, beq_iff_eq] at h
  omega
theorem mrow_mrow (c e : CT) (f : Nat → Int32) : mrow e (mrow c f) = mrow e f := by
  funext i
  by_cases h : mfj i = false
  · rw [mrow_out h, mrow_out h, mrow_out h]
  · rcases mfj_or h with rfl | rfl | rfl | rfl | rfl | rfl | rfl | rfl <;> rfl
/-- one number of the row becomes another -/
theorem mw_row {c e : CT} {f : Nat → Int32} {i : Nat} {x : Int32} (h1 : ∀ j, j ≠ i → mrow c f j = mrow e f j) (h2 : mrow e f i = x) : ∀ j, va_up (mrow c f) i x j = mrow e f j := by
  intro j
  by_cases h : j = i
  · subst h; rw [az_up_self]; exact h2.symm
  · rw [az_up_ne h]; exact h1 j h
theorem mw_9 (s : Nat → Nat → Int32) (o : Nat) (c : CT) (x : Int32) : az_w (mput s o c) o 9 x = mput s o (sAir c x) := by
  refine mput_ext (fun i => ?_) ?_ ?_ ?_ ?_ ?_ (fun k h1 h2 => ?_)
  · rw [az_w_same, mput_o]
    refine mw_row (c := c) (e := sAir c x) (i := 9) (x := x) (fun i hi => ?_) (show mrow (sAir c x) (s o) 9 = x from rfl) i
    by_cases h : mfj i = false
    · rw [mrow_out h, mrow_out h]
    · rcases mfj_or h with rfl | rfl | rfl | rfl | rfl | rfl | rfl | rfl <;> first | rfl | exact absurd rfl hi
  · rw [az_w_ne (by omega), ma_17]; rfl
  · rw [az_w_ne (by omega), ma_18]; rfl
  · rw [az_w_ne (by omega), ma_19]; rfl
  · rw [az_w_ne (by omega), ma_20]; rfl
  · rw [az_w_ne (by omega), ma_21]; rfl
  · rw [az_w_ne h1, mput_ne h1 h2]
theorem mw_10 (s : Nat → Nat → Int32) (o : Nat) (c : CT) (x : Int32) : az_w (mput s o c) o 10 x = mput s o (sFall c x) := by
  refine mput_ext (fun i => ?_) ?_ ?_ ?_ ?_ ?_ (fun k h1 h2 => ?_)
  · rw [az_w_same, mput_o]
    refine mw_row (c := c) (e := sFall c x) (i := 10) (x := x) (fun i hi => ?_) (show mrow (sFall c x) (s o) 10 = x from rfl) i
    by_cases h : mfj i = false
    · rw [mrow_out h, mrow_out h]
    · rcases mfj_or h with rfl | rfl | rfl | rfl | rfl | rfl | rfl | rfl <;> first | rfl | exact absurd rfl hi
  · rw [az_w_ne (by omega), ma_17]; rfl
  · rw [az_w_ne (by omega), ma_18]; rfl
  · rw [az_w_ne (by omega), ma_19]; rfl
  · rw [az_w_ne (by omega), ma_20]; rfl
  · rw [az_w_ne (by omega), ma_21]; rfl
  · rw [az_w_ne h1, mput_ne h1 h2]
theorem mw_11 (s : Nat → Nat → Int32) (o : Nat) (c : CT) (x : Int32) : az_w (mput s o c) o 11 x = mput s o (sDay c x) := by
  refine mput_ext (fun i => ?_) ?_ ?_ ?_ ?_ ?_ (fun k h1 h2 => ?_)
  · rw [az_w_same, mput_o]
    refine mw_row (c := c) (e := sDay c x) (i := 11) (x := x) (fun i hi => ?_) (show mrow (sDay c x) (s o) 11 = x from rfl) i
    by_cases h : mfj i = false
    · rw [mrow_out h, mrow_out h]
    · rcases mfj_or h with rfl | rfl | rfl | rfl | rfl | rfl | rfl | rfl <;> first | rfl | exact absurd rfl hi
  · rw [az_w_ne (by omega), ma_17]; rfl
  · rw [az_w_ne (by omega), ma_18]; rfl
  · rw [az_w_ne (by omega), ma_19]; rfl
  · rw [az_w_ne (by omega), ma_20]; rfl
  · rw [az_w_ne (by omega), ma_21]; rfl
  · rw [az_w_ne h1, mput_ne h1 h2]
theorem mw_12 (s : Nat → Nat → Int32) (o : Nat) (c : CT) (x : Int32) : az_w (mput s o c) o 12 x = mput s o (sWin c x) := by
  refine mput_ext (fun i => ?_) ?_ ?_ ?_ ?_ ?_ (fun k h1 h2 => ?_)
  · rw [az_w_same, mput_o]
    refine mw_row (c := c) (e := sWin c x) (i := 12) (x := x) (fun i hi => ?_) (show mrow (sWin c x) (s o) 12 = x from rfl) i
    by_cases h : mfj i = false
    · rw [mrow_out h, mrow_out h]
    · rcases mfj_or h with rfl | rfl | rfl | rfl | rfl | rfl | rfl | rfl <;> first | rfl | exact absurd rfl hi
  · rw [az_w_ne (by omega), ma_17]; rfl
  · rw [az_w_ne (by omega), ma_18]; rfl
  · rw [az_w_ne (by omega), ma_19]; rfl
  · rw [az_w_ne (by omega), ma_20]; rfl
  · rw [az_w_ne (by omega), ma_21]; rfl
  · rw [az_w_ne h1, mput_ne h1 h2]
theorem mw_13 (s : Nat → Nat → Int32) (o : Nat) (c : CT) (x : Int32) : az_w (mput s o c) o 13 x = mput s o (sCoal c x) := by
  refine mput_ext (fun i => ?_) ?_ ?_ ?_ ?_ ?_ (fun k h1 h2 => ?_)
  · rw [az_w_same, mput_o]
    refine mw_row (c := c) (e := sCoal c x) (i := 13) (x := x) (fun i hi => ?_) (show mrow (sCoal c x) (s o) 13 = x from rfl) i
    by_cases h : mfj i = false
    · rw [mrow_out h, mrow_out h]
    · rcases mfj_or h with rfl | rfl | rfl | rfl | rfl | rfl | rfl | rfl <;> first | rfl | exact absurd rfl hi
  · rw [az_w_ne (by omega), ma_17]; rfl
  · rw [az_w_ne (by omega), ma_18]; rfl
  · rw [az_w_ne (by omega), ma_19]; rfl
  · rw [az_w_ne (by omega), ma_20]; rfl
  · rw [az_w_ne (by omega), ma_21]; rfl
  · rw [az_w_ne h1, mput_ne h1 h2]
theorem mw_14 (s : Nat → Nat → Int32) (o : Nat) (c : CT) (x : Int32) : az_w (mput s o c) o 14 x = mput s o (sPp c x) := by
  refine mput_ext (fun i => ?_) ?_ ?_ ?_ ?_ ?_ (fun k h1 h2 => ?_)
  · rw [az_w_same, mput_o]
    refine mw_row (c := c) (e := sPp c x) (i := 14) (x := x) (fun i hi => ?_) (show mrow (sPp c x) (s o) 14 = x from rfl) i
    by_cases h : mfj i = false
    · rw [mrow_out h, mrow_out h]
    · rcases mfj_or h with rfl | rfl | rfl | rfl | rfl | rfl | rfl | rfl <;> first | rfl | exact absurd rfl hi
  · rw [az_w_ne (by omega), ma_17]; rfl
  · rw [az_w_ne (by omega), ma_18]; rfl
  · rw [az_w_ne (by omega), ma_19]; rfl
  · rw [az_w_ne (by omega), ma_20]; rfl
  · rw [az_w_ne (by omega), ma_21]; rfl
  · rw [az_w_ne h1, mput_ne h1 h2]
theorem mw_20 (s : Nat → Nat → Int32) (o : Nat) (c : CT) (x : Int32) : az_w (mput s o c) o 20 x = mput s o (sSeed c x) := by
  refine mput_ext (fun i => ?_) ?_ ?_ ?_ ?_ ?_ (fun k h1 h2 => ?_)
  · rw [az_w_same, mput_o]
    refine mw_row (c := c) (e := sSeed c x) (i := 20) (x := x) (fun i hi => ?_) (show mrow (sSeed c x) (s o) 20 = x from rfl) i
    by_cases h : mfj i = false
    · rw [mrow_out h, mrow_out h]
    · rcases mfj_or h with rfl | rfl | rfl | rfl | rfl | rfl | rfl | rfl <;> first | rfl | exact absurd rfl hi
  · rw [az_w_ne (by omega), ma_17]; rfl
  · rw [az_w_ne (by omega), ma_18]; rfl
  · rw [az_w_ne (by omega), ma_19]; rfl
  · rw [az_w_ne (by omega), ma_20]; rfl
  · rw [az_w_ne (by omega), ma_21]; rfl
  · rw [az_w_ne h1, mput_ne h1 h2]
theorem mw_30 (s : Nat → Nat → Int32) (o : Nat) (c : CT) (x : Int32) : az_w (mput s o c) o 30 x = mput s o (sAway c x) := by
  refine mput_ext (fun i => ?_) ?_ ?_ ?_ ?_ ?_ (fun k h1 h2 => ?_)
  · rw [az_w_same, mput_o]
    refine mw_row (c := c) (e := sAway c x) (i := 30) (x := x) (fun i hi => ?_) (show mrow (sAway c x) (s o) 30 = x from rfl) i
    by_cases h : mfj i = false
    · rw [mrow_out h, mrow_out h]
    · rcases mfj_or h with rfl | rfl | rfl | rfl | rfl | rfl | rfl | rfl <;> first | rfl | exact absurd rfl hi
  · rw [az_w_ne (by omega), ma_17]; rfl
  · rw [az_w_ne (by omega), ma_18]; rfl
  · rw [az_w_ne (by omega), ma_19]; rfl
  · rw [az_w_ne (by omega), ma_20]; rfl
  · rw [az_w_ne (by omega), ma_21]; rfl
  · rw [az_w_ne h1, mput_ne h1 h2]
theorem mu_17 (s : Nat → Nat → Int32) (o : Nat) (c : CT) (f : Nat → Int32) : va_up (mput s o c) (o + 17) f = mput s o (sKd c f) := by
  refine mput_ext (fun i => ?_) ?_ ?_ ?_ ?_ ?_ (fun k h1 h2 => ?_)
  · rw [az_up_ne (by omega), mput_o]; rfl
  · rw [az_up_self]; rfl
  · rw [az_up_ne (by omega), ma_18]; rfl
  · rw [az_up_ne (by omega), ma_19]; rfl
  · rw [az_up_ne (by omega), ma_20]; rfl
  · rw [az_up_ne (by omega), ma_21]; rfl
  · rw [az_up_ne (by omega), mput_ne h1 h2]
theorem mx_17 (s : Nat → Nat → Int32) (o : Nat) (c : CT) (i : Nat) (x : Int32) : az_w (mput s o c) (o + 17) i x = mput s o (sKd c (va_up (cKd c) i x)) := by unfold az_w; rw [mu_17, ma_17]
theorem mu_18 (s : Nat → Nat → Int32) (o : Nat) (c : CT) (f : Nat → Int32) : va_up (mput s o c) (o + 18) f = mput s o (sAa c f) := by
  refine mput_ext (fun i => ?_) ?_ ?_ ?_ ?_ ?_ (fun k h1 h2 => ?_)
  · rw [az_up_ne (by omega), mput_o]; rfl
  · rw [az_up_ne (by omega), ma_17]; rfl
  · rw [az_up_self]; rfl
  · rw [az_up_ne (by omega), ma_19]; rfl
  · rw [az_up_ne (by omega), ma_20]; rfl
  · rw [az_up_ne (by omega), ma_21]; rfl
  · rw [az_up_ne (by omega), mput_ne h1 h2]
theorem mx_18 (s : Nat → Nat → Int32) (o : Nat) (c : CT) (i : Nat) (x : Int32) : az_w (mput s o c) (o + 18) i x = mput s o (sAa c (va_up (cAa c) i x)) := by unfold az_w; rw [mu_18, ma_18]
theorem mu_19 (s : Nat → Nat → Int32) (o : Nat) (c : CT) (f : Nat → Int32) : va_up (mput s o c) (o + 19) f = mput s o (sPr c f) := by
  refine mput_ext (fun i => ?_) ?_ ?_ ?_ ?_ ?_ (fun k h1 h2 => ?_)
  · rw [az_up_ne (by omega), mput_o]; rfl
  · rw [az_up_ne (by omega), ma_17]; rfl
  · rw [az_up_ne (by omega), ma_18]; rfl
  · rw [az_up_self]; rfl
  · rw [az_up_ne (by omega), ma_20]; rfl
  · rw [az_up_ne (by omega), ma_21]; rfl
  · rw [az_up_ne (by omega), mput_ne h1 h2]
theorem mx_19 (s : Nat → Nat → Int32) (o : Nat) (c : CT) (i : Nat) (x : Int32) : az_w (mput s o c) (o + 19) i x = mput s o (sPr c (va_up (cPr c) i x)) := by unfold az_w; rw [mu_19, ma_19]
theorem mu_20 (s : Nat → Nat → Int32) (o : Nat) (c : CT) (f : Nat → Int32) : va_up (mput s o c) (o + 20) f = mput s o (sBr c f) := by
  refine mput_ext (fun i => ?_) ?_ ?_ ?_ ?_ ?_ (fun k h1 h2 => ?_)
  · rw [az_up_ne (by omega), mput_o]; rfl
  · rw [az_up_ne (by omega), ma_17]; rfl
  · rw [az_up_ne (by omega), ma_18]; rfl
  · rw [az_up_ne (by omega), ma_19]; rfl
  · rw [az_up_self]; rfl
  · rw [az_up_ne (by omega), ma_21]; rfl
  · rw [az_up_ne (by omega), mput_ne h1 h2]
theorem mx_20 (s : Nat → Nat → Int32) (o : Nat) (c : CT) (i : Nat) (x : Int32) : az_w (mput s o c) (o + 20) i x = mput s o (sBr c (va_up (cBr c) i x)) := by unfold az_w; rw [mu_20, ma_20]
theorem mu_21 (s : Nat → Nat → Int32) (o : Nat) (c : CT) (f : Nat → Int32) : va_up (mput s o c) (o + 21) f = mput s o (sFe c f) := by
  refine mput_ext (fun i => ?_) ?_ ?_ ?_ ?_ ?_ (fun k h1 h2 => ?_)
  · rw [az_up_ne (by omega), mput_o]; rfl
  · rw [az_up_ne (by omega), ma_17]; rfl
  · rw [az_up_ne (by omega), ma_18]; rfl
  · rw [az_up_ne (by omega), ma_19]; rfl
  · rw [az_up_ne (by omega), ma_20]; rfl
  · rw [az_up_self]; rfl
  · rw [az_up_ne (by omega), mput_ne h1 h2]
theorem mx_21 (s : Nat → Nat → Int32) (o : Nat) (c : CT) (i : Nat) (x : Int32) : az_w (mput s o c) (o + 21) i x = mput s o (sFe c (va_up (cFe c) i x)) := by unfold az_w; rw [mu_21, ma_21]
/-- what lies beside goes under -/
theorem mput_wj {s : Nat → Nat → Int32} {o j : Nat} {c : CT} {x : Int32} (h : mfj j = false) : az_w (mput s o c) o j x = mput (az_w s o j x) o c := by
  refine mput_ext (fun i => ?_) ?_ ?_ ?_ ?_ ?_ (fun k h1 h2 => ?_)
  · rw [az_w_same, az_w_same, mput_o]
    by_cases e : i = j
    · subst e; rw [az_up_self, mrow_out h, az_up_self]
    · rw [az_up_ne e]
      unfold mrow
      rw [az_up_ne e]
  · rw [az_w_ne (by omega), ma_17]
  · rw [az_w_ne (by omega), ma_18]
  · rw [az_w_ne (by omega), ma_19]
  · rw [az_w_ne (by omega), ma_20]
  · rw [az_w_ne (by omega), ma_21]
  · rw [az_w_ne h1, az_w_ne h1, mput_ne h1 h2]
theorem mput_up {s : Nat → Nat → Int32} {o k : Nat} {c : CT} {f : Nat → Int32} (h : k ≠ o) (h2 : k < o + 17 ∨ o + 21 < k) : va_up (mput s o c) k f = mput (va_up s k f) o c := by
  refine mput_ext (fun i => ?_) ?_ ?_ ?_ ?_ ?_ (fun q h3 h4 => ?_)
  · rw [az_up_ne (Ne.symm h), az_up_ne (Ne.symm h), mput_o]
  · rw [az_up_ne (by omega), ma_17]
  · rw [az_up_ne (by omega), ma_18]
  · rw [az_up_ne (by omega), ma_19]
  · rw [az_up_ne (by omega), ma_20]
  · rw [az_up_ne (by omega), ma_21]
  · by_cases e : q = k
    · subst e; rw [az_up_self, az_up_self]
    · rw [az_up_ne e, az_up_ne e, mput_ne h3 h4]
theorem mput_wk {s : Nat → Nat → Int32} {o k i : Nat} {c : CT} {x : Int32} (h : k ≠ o) (h2 : k < o + 17 ∨ o + 21 < k) : az_w (mput s o c) k i x = mput (az_w s k i x) o c := by
  unfold az_w
  rw [mput_up h h2, mput_ne h h2]
theorem mput_mput (s : Nat → Nat → Int32) (o : Nat) (c e : CT) : mput (mput s o c) o e = mput s o e := by
  refine mput_ext (fun i => ?_) (ma_17 _ _ _) (ma_18 _ _ _) (ma_19 _ _ _) (ma_20 _ _ _) (ma_21 _ _ _) (fun k h1 h2 => ?_)
  · rw [mput_o, mput_o, mrow_mrow]
  · rw [mput_ne h1 h2, mput_ne h1 h2]
theorem mput_lov (s : Nat → Nat → Int32) (o : Nat) (c : CT) (x : Int32) : mput s o (sLov c x) = mput s o c := rfl
/-- lovers there, one who is gone not among them -/
def mlov (c : CT) : Nat := fa_cnt (fun p => decide (cKd c p = 4) && !decide (nI p = cAway c)) (cN c)
def cLv (c : CT) : Prop := cLov c = nI (mlov c)
theorem cW_lv {c : CT} (h : cW c) : cLv c := by
  unfold cLv
  rw [h.2.2.2.1]
  unfold mlov zlov
  congr 1
  refine fa_cnt_cong (fun p hp => ?_)
  rw [h.2.2.1, decide_eq_false (p := nI p = -1) (nI_n1 (by have := h.1.1.2; omega))]
  simp
