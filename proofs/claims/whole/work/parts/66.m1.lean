theorem mx0_g9 {x : Int32} (h : 0 ≤ x) : x = mx0 x := by
  unfold mx0
  by_cases q : 0 < x
  · rw [if_pos q]
  · rw [if_neg q]; exact Int32.le_antisymm (Int32.not_lt.mp q) h
theorem mx0_l9 {x : Int32} (h : ¬ 0 ≤ x) : 0 = mx0 x := by
  unfold mx0
  rw [if_neg (fun q => h (Int32.le_of_lt q))]
theorem mnI_le {x : Int32} (h : x ≤ 40) : x = mnI 40 x := by
  unfold mnI
  by_cases q : x < 40
  · rw [if_pos q]
  · rw [if_neg q]; exact Int32.le_antisymm h (Int32.not_lt.mp q)
set_option maxHeartbeats 600000 in
set_option maxRecDepth 100000 in
theorem c_X8_held (l : Launch) (G : az_Gh) (d : Nat) (sh : List az_Sh) (sg : Nat → Nat → Int32) (la : Nat → Nat → Int64) (x : Int32)  : FM l G (d) mX8_held [.int x] (sh, sg, la) (some (.int (mx0 x))) (sh, sg, la) := by
  refine az_fm knX8_held (Nat.le_of_ble_eq_true rfl) rfl (fun Post hP => ?_)
  show AW l G mX8_held (d) (az_F G Post) 0 0 0 [some (.int x)] [] (sh, sg, la)
  refine A_iload_n dX8_held_0 rfl rfl ?_
  refine A_if_ge (tgt := 8) dX8_held_1 rfl (fun h_1 => ?_) (fun h_1 => ?_)
  · skip
    refine A_iload_n dX8_held_8 rfl rfl ?_
    refine A_iret dX8_held_9 rfl (az_pi hP ?_ (rfl))
    exact mx0_g9 h_1
  · skip
    refine A_iconst (v := 0) dX8_held_4 (by decide) ?_
    refine A_goto (tgt := 9) dX8_held_5 rfl ?_
    refine A_iret dX8_held_9 rfl (az_pi hP ?_ (rfl))
    exact mx0_l9 h_1
set_option maxHeartbeats 600000 in
set_option maxRecDepth 100000 in
theorem c_X8_full (l : Launch) (G : az_Gh) (d : Nat) (sh : List az_Sh) (sg : Nat → Nat → Int32) (la : Nat → Nat → Int64) (x : Int32)  : FM l G (d) mX8_full [.int x] (sh, sg, la) (some (.int (mnI 40 x))) (sh, sg, la) := by
  refine az_fm knX8_full (Nat.le_of_ble_eq_true rfl) rfl (fun Post hP => ?_)
  show AW l G mX8_full (d) (az_F G Post) 0 0 0 [some (.int x)] [] (sh, sg, la)
  refine A_iload_n dX8_full_0 rfl rfl ?_
  refine A_bipush (v := 40) dX8_full_1 (by decide) ?_
  refine A_icmp_le (tgt := 11) dX8_full_3 rfl (fun h_1 => ?_) (fun h_1 => ?_)
  · skip
    refine A_iload_n dX8_full_11 rfl rfl ?_
    refine A_iret dX8_full_12 rfl (az_pi hP ?_ (rfl))
    exact mnI_le h_1
  · skip
    refine A_bipush (v := 40) dX8_full_6 (by decide) ?_
    refine A_goto (tgt := 12) dX8_full_8 rfl ?_
    refine A_iret dX8_full_12 rfl (az_pi hP ?_ (rfl))
    exact (if_neg (Int32.not_lt.mpr (Int32.le_of_lt (Int32.not_le.mp h_1)))).symm
set_option maxHeartbeats 600000 in
set_option maxRecDepth 100000 in
theorem c_X8_in (l : Launch) (G : az_Gh) (d : Nat) (sh : List az_Sh) (sg : Nat → Nat → Int32) (la : Nat → Nat → Int64) (v a b : Int64)  : FM l G (d) mX8_in [.long v, .long a, .long b] (sh, sg, la) (some (.int (b2i (a ≤ v ∧ v ≤ b)))) (sh, sg, la) := by
  refine az_fm knX8_in (Nat.le_of_ble_eq_true rfl) rfl (fun Post hP => ?_)
  show AW l G mX8_in (d) (az_F G Post) 0 0 0 [some (.long v), none, some (.long a), none, some (.long b), none] [] (sh, sg, la)
  refine A_lload_n dX8_in_0 rfl rfl ?_
  refine A_lload_n dX8_in_1 rfl rfl ?_
  refine A_lcmp dX8_in_2 ?_
  refine A_if_lt (tgt := 17) dX8_in_3 rfl (fun h_1 => ?_) (fun h_1 => ?_)
  · skip
    refine A_iconst (v := 0) dX8_in_17 (by decide) ?_
    refine A_zret dX8_in_18 rfl (rfl) (az_pi hP ?_ (rfl))
    exact b2i_f (fun q => Int64.not_lt.mpr q.1 (lcmp_lt.mp h_1))
  · skip
    refine A_lload_n dX8_in_6 rfl rfl ?_
    refine A_lload dX8_in_7 rfl ?_
    refine A_lcmp dX8_in_9 ?_
    refine A_if_gt (tgt := 17) dX8_in_10 rfl (fun h_2 => ?_) (fun h_2 => ?_)
    · skip
      refine A_iconst (v := 0) dX8_in_17 (by decide) ?_
      refine A_zret dX8_in_18 rfl (rfl) (az_pi hP ?_ (rfl))
      exact b2i_f (fun q => Int64.not_lt.mpr q.2 (lcmp_gt.mp h_2))
    · skip
      refine A_iconst (v := 1) dX8_in_13 (by decide) ?_
      refine A_goto (tgt := 18) dX8_in_14 rfl ?_
      refine A_zret dX8_in_18 rfl (rfl) (az_pi hP ?_ (rfl))
      exact b2i_t ⟨Int64.not_lt.mp (fun q => h_1 (lcmp_lt.mpr q)), Int64.not_lt.mp (fun q => h_2 (lcmp_gt.mpr q))⟩
theorem in_i {x a b : Int32} : (a.toInt64 ≤ x.toInt64 ∧ x.toInt64 ≤ b.toInt64) ↔ (a ≤ x ∧ x ≤ b) := by rw [fa_wide_le, fa_wide_le]
theorem c_X8_inI (l : Launch) (G : az_Gh) (d : Nat) (sh : List az_Sh) (sg : Nat → Nat → Int32) (la : Nat → Nat → Int64) (x : Int32) (b : Int32) (y : Int64) (hy : b.toInt64 = y) : FM l G d mX8_in [.long x.toInt64, .long 0, .long y] (sh, sg, la) (some (.int (b2i (0 ≤ x ∧ x ≤ b)))) (sh, sg, la) := by
  have q := c_X8_in l G d sh sg la x.toInt64 0 y
  have e : b2i ((0 : Int64) ≤ x.toInt64 ∧ x.toInt64 ≤ y) = b2i (0 ≤ x ∧ x ≤ b) := by
    subst hy
    have h := in_i (x := x) (a := 0) (b := b)
    rw [show (0 : Int32).toInt64 = 0 from by decide] at h
    unfold b2i
    by_cases z : 0 ≤ x ∧ x ≤ b
    · rw [if_pos z, if_pos (h.mpr z)]
    · rw [if_neg z, if_neg (fun w => z (h.mp w))]
  rw [e] at q
  exact q
theorem pp_i {c : CT} {x : Int32} (hO : cOk c) : (0 ≤ x ∧ x ≤ cPp c - 1) ↔ (0 ≤ x ∧ x < cPp c) := by
  have h8 := hO.2
  have e : (cPp c - 1).toInt = (cN c : Int) - 1 := by
    rw [hO.1, Int32.toInt_sub, nI_toInt (by omega), show (1 : Int32).toInt = 1 by decide]
    exact Int.bmod_eq_of_le (by omega) (by omega)
  have e2 : (cPp c).toInt = (cN c : Int) := by rw [hO.1, nI_toInt (by omega)]
  rw [Int32.le_iff_toInt_le (x := x), Int32.lt_iff_toInt_lt, e, e2]
  exact ⟨fun h => ⟨h.1, by omega⟩, fun h => ⟨h.1, by omega⟩⟩
theorem b2i_iff {p q : Prop} [Decidable p] [Decidable q] (h : p ↔ q) : b2i p = b2i q := by
  unfold b2i
  by_cases z : p
  · rw [if_pos z, if_pos (h.mp z)]
  · rw [if_neg z, if_neg (fun w => z (h.mpr w))]
set_option maxHeartbeats 1000000 in
set_option maxRecDepth 100000 in
theorem r_isPerson (l : Launch) (G : az_Gh) (d : Nat) (sh : List az_Sh) (u : Nat → Nat → Int32) (la : Nat → Nat → Int64) (kp tr : Option Nat) (c : CT) (x : Int32) (hM : az_at sh 60 (lyM 60 kp tr)) (hO : cOk c) : FM l G (d + 1) mX8_isPerson [.ref 60, .long (Int32.toInt64 x)] (sh, (mput u 60 c), la) (some (.int (b2i (0 ≤ x ∧ x < cPp c)))) (sh, mput u 60 c, la) := by
  refine az_fm knX8_isPerson (Nat.le_of_ble_eq_true rfl) rfl (fun Post hP => ?_)
  show AW l G mX8_isPerson (d + 1) (az_F G Post) 0 0 0 [some (.ref 60), some (.long (Int32.toInt64 x)), none] [] (sh, (mput u 60 c), la)
  refine A_lload_n dX8_isPerson_0 rfl rfl ?_
  refine A_lconst (v := 0) dX8_isPerson_1 (by decide) ?_
  refine A_aload_n dX8_isPerson_2 rfl rfl ?_
  refine B_getV (cPp c) dX8_isPerson_3 flX8_88 (hM 0 _ rfl) rfl (mr_14 _ _ _) ?_
  refine A_iconst (v := 1) dX8_isPerson_6 (by decide) ?_
  refine A_isub dX8_isPerson_7 ?_
  refine A_i2l dX8_isPerson_8 ?_
  refine A_callS (n := 0) dX8_isPerson_9 ksX8_in mlX8_91 rfl (c_X8_inI l G d sh (mput u 60 c) la x (cPp c - 1) (Int32.toInt64 (cPp c - 1)) rfl) (by omega) (Nat.le_refl _) (Nat.le_refl _) rfl (Nat.le_of_ble_eq_true rfl) (fun r S1 hp => ?_)
  obtain ⟨rfl, rfl⟩ := hp
  show AW l G mX8_isPerson (d + 1) (az_F G Post) 0 0 12 [some (.ref 60), some (.long (Int32.toInt64 x)), none] [.int (b2i (0 ≤ x ∧ x ≤ (cPp c - 1)))] (sh, (mput u 60 c), la)
  refine A_zret dX8_isPerson_12 rfl (narrow_b2i _) (az_pi hP ?_ (rfl))
  exact b2i_iff (pp_i hO)
def mlb (c : CT) (p o : Nat) : Bool := decide (¬ o = p) && (decide (¬ nI o = cAway c) && decide (cKd c o = 4))
theorem mlb_y {c : CT} {p o : Nat} (h1 : ¬ o = p) (h2 : ¬ nI o = cAway c) (h3 : cKd c o = 4) : mlb c p o = true := by unfold mlb; rw [decide_eq_true h1, decide_eq_true h2, decide_eq_true h3]; rfl
theorem mlb_1 {c : CT} {p o : Nat} (h1 : o = p) : mlb c p o = false := by unfold mlb; rw [decide_eq_false (fun q => q h1)]; rfl
theorem mlb_2 {c : CT} {p o : Nat} (h2 : nI o = cAway c) : mlb c p o = false := by unfold mlb; rw [decide_eq_false (p := ¬ nI o = cAway c) (fun q => q h2), Bool.false_and, Bool.and_false]
theorem mlb_3 {c : CT} {p o : Nat} (h3 : ¬ cKd c o = 4) : mlb c p o = false := by unfold mlb; rw [decide_eq_false h3, Bool.and_false, Bool.and_false]
theorem fa_cnt_pos {p : Nat → Bool} : ∀ {n k : Nat}, k < n → p k = true → 0 < fa_cnt p n
  | 0, k, h, _ => absurd h (by omega)
  | n + 1, k, h, hp => by
    by_cases e : k = n
    · subst e; rw [fa_cnt_yes hp]; omega
    · have := fa_cnt_pos (p := p) (n := n) (k := k) (by omega) hp
      cases hq : p n
      · rw [fa_cnt_no hq]; exact this
      · rw [fa_cnt_yes hq]; omega
theorem fa_cnt_0 {p : Nat → Bool} : ∀ {n : Nat}, (∀ k, k < n → p k = false) → fa_cnt p n = 0
  | 0, _ => rfl
  | n + 1, h => by rw [fa_cnt_no (h n (by omega))]; exact fa_cnt_0 (fun k hk => h k (by omega))
/-- one is counted, and the others -/
theorem fa_cnt_split {f : Nat → Bool} {p : Nat} : ∀ {n : Nat}, p < n → f p = true → fa_cnt f n = fa_cnt (fun o => decide (¬ o = p) && f o) n + 1
  | 0, h, _ => absurd h (by omega)
  | n + 1, h, hp => by
    by_cases e : p = n
    · subst e
      rw [fa_cnt_yes hp, fa_cnt_no (p := fun o => decide (¬ o = p) && f o) (by simp)]
      congr 1
      exact fa_cnt_cong (fun k hk => by rw [decide_eq_true (p := ¬ k = p) (by omega)]; rfl)
    · have ih := fa_cnt_split (n := n) (by omega) hp
      cases hq : f n
      · rw [fa_cnt_no hq, fa_cnt_no (p := fun o => decide (¬ o = p) && f o) (by simp [hq])]; exact ih
      · rw [fa_cnt_yes hq, fa_cnt_yes (p := fun o => decide (¬ o = p) && f o) (by simp [hq]; omega), ih]
theorem mlov_p {c : CT} (hL : cLv c) (hO : cOk c) {p : Nat} (hp : p < cN c) (hg : ¬ nI p = cAway c) : (∃ o, o < cN c ∧ mlb c p o = true) ↔ (if cKd c p = 4 then (1 : Int32) else 0) < cLov c := by
  have h8 := hO.2
  rw [hL]
  have hle : mlov c ≤ cN c := fa_cnt_le _ _
  have e1 : ∀ o, mlb c p o = (decide (¬ o = p) && (fun q => decide (cKd c q = 4) && !decide (nI q = cAway c)) o) := by
    intro o
    unfold mlb
    by_cases z1 : o = p <;> by_cases z2 : nI o = cAway c <;> by_cases z3 : cKd c o = 4 <;> simp [z1, z2, z3]
  by_cases k : cKd c p = 4
  · rw [if_pos k]
    have hs : mlov c = fa_cnt (mlb c p) (cN c) + 1 := by
      unfold mlov
      rw [fa_cnt_split hp (by simp [k, hg])]
      congr 1
      exact fa_cnt_cong (fun o _ => (e1 o).symm)
    constructor
    · rintro ⟨o, ho, hb⟩
      have := fa_cnt_pos ho hb
      exact nI_lt (a := 1) (by omega) (by omega)
    · intro h
      have h2 : 1 < mlov c := (nI_ltI (a := 1) (by omega) (by omega)).mp h
      apply Classical.byContradiction
      intro hn
      have := fa_cnt_0 (p := mlb c p) (n := cN c) (fun o ho => by cases hq : mlb c p o; rfl; exact absurd ⟨o, ho, hq⟩ hn)
      omega
  · rw [if_neg k]
    have hs : mlov c = fa_cnt (mlb c p) (cN c) := by
      unfold mlov
      refine fa_cnt_cong (fun o _ => ?_)
      rw [e1]
      by_cases z : o = p
      · subst z; simp [k]
      · simp [z]
    constructor
    · rintro ⟨o, ho, hb⟩
      have := fa_cnt_pos ho hb
      exact nI_lt (a := 0) (by omega) (by omega)
    · intro h
      have h2 : 0 < mlov c := (nI_ltI (a := 0) (by omega) (by omega)).mp h
      apply Classical.byContradiction
      intro hn
      have := fa_cnt_0 (p := mlb c p) (n := cN c) (fun o ho => by cases hq : mlb c p o; rfl; exact absurd ⟨o, ho, hq⟩ hn)
      omega
set_option maxHeartbeats 1000000 in
set_option maxRecDepth 100000 in
theorem r_isLoved (l : Launch) (G : az_Gh) (d : Nat) (sh : List az_Sh) (u : Nat → Nat → Int32) (la : Nat → Nat → Int64) (kp tr : Option Nat) (c : CT) (p : Nat) (hM : az_at sh 60 (lyM 60 kp tr)) (hO : cOk c) (hL : cLv c) (hp : p < cN c) (hg : ¬ nI p = cAway c) : FM l G (d) mX8_isLoved [.ref 60, .int (nI p)] (sh, (mput u 60 c), la) (some (.int (b2i ((if cKd c p = 4 then (1 : Int32) else 0) < cLov c)))) (sh, mput u 60 c, la) := by
  refine az_fm knX8_isLoved (Nat.le_of_ble_eq_true rfl) rfl (fun Post hP => ?_)
  show AW l G mX8_isLoved (d) (az_F G Post) 0 0 0 [some (.ref 60), some (.int (nI p)), none] [] (sh, (mput u 60 c), la)
  have h8 := hO.2
  refine A_iconst (v := 0) dX8_isLoved_0 (by decide) ?_
  refine A_istore_n (lo2 := [some (.ref 60), some (.int (nI p)), some (.int 0)]) dX8_isLoved_1 rfl (by decide) rfl ?_
  have loop : ∀ (q_i9 i9 : Nat), i9 + q_i9 = cN c → (∀ k, k < i9 → mlb c p k = false) → AW l G mX8_isLoved (d) (az_F G Post) 0 0 2 [some (.ref 60), some (.int (nI p)), some (.int (nI i9))] [] (sh, (mput u 60 c), la) := by
    intro q_i9
    induction q_i9 with
    | zero =>
      intro i9  hi_i9 hno 
      have hN_i9 : i9 = cN c := by omega
      subst i9
      refine A_iload_n dX8_isLoved_2 rfl rfl ?_
      refine A_aload_n dX8_isLoved_3 rfl rfl ?_
      refine B_getV (nI (cN c)) dX8_isLoved_4 flX8_88 (hM 0 _ rfl) rfl ((mr_14 _ _ _).trans hO.1) ?_
      refine A_icmp_ge (tgt := 41) dX8_isLoved_7 rfl (fun h_1 => ?_) (fun h_1 => ?_)
      · skip
        refine A_iconst (v := 0) dX8_isLoved_41 (by decide) ?_
        refine A_zret dX8_isLoved_42 rfl (rfl) (az_pi hP ?_ (rfl))
        exact b2i_f (fun q => by obtain ⟨o, ho, hb⟩ := (mlov_p hL hO hp hg).mpr q; rw [hno o ho] at hb; cases hb)
      · skip
        exact absurd (Int32.le_refl _) h_1
    | succ q_i9 ih =>
      intro i9  hi_i9 hno 
      refine A_iload_n dX8_isLoved_2 rfl rfl ?_
      refine A_aload_n dX8_isLoved_3 rfl rfl ?_
      refine B_getV (nI (cN c)) dX8_isLoved_4 flX8_88 (hM 0 _ rfl) rfl ((mr_14 _ _ _).trans hO.1) ?_
      refine A_icmp_ge (tgt := 41) dX8_isLoved_7 rfl (fun h_2 => ?_) (fun h_2 => ?_)
      · skip
        exact absurd h_2 (nI_ge (by omega) (by omega))
      · skip
        refine A_iload_n dX8_isLoved_10 rfl rfl ?_
        refine A_iload_n dX8_isLoved_11 rfl rfl ?_
        refine A_icmp_eq (tgt := 35) dX8_isLoved_12 rfl (fun h_3 => ?_) (fun h_3 => ?_)
        · skip
          refine A_iinc (v := nI (i9 + 1)) (lo2 := [some (.ref 60), some (.int (nI p)), some (.int (nI (i9 + 1)))]) dX8_isLoved_35 rfl (nI_1 i9) (by decide) rfl ?_
          refine A_goto (tgt := 2) dX8_isLoved_38 rfl ?_
          refine ih (i9 + 1) (by omega) (lt_s hno (mlb_1 ((nI_eq (by omega) (by omega)).mp h_3)))
        · skip
          refine A_iload_n dX8_isLoved_15 rfl rfl ?_
          refine A_aload_n dX8_isLoved_16 rfl rfl ?_
          refine B_getV (cAway c) dX8_isLoved_17 flX8_71 (hM 0 _ rfl) rfl (mr_30 _ _ _) ?_
          refine A_icmp_eq (tgt := 35) dX8_isLoved_20 rfl (fun h_4 => ?_) (fun h_4 => ?_)
          · skip
            refine A_iinc (v := nI (i9 + 1)) (lo2 := [some (.ref 60), some (.int (nI p)), some (.int (nI (i9 + 1)))]) dX8_isLoved_35 rfl (nI_1 i9) (by decide) rfl ?_
            refine A_goto (tgt := 2) dX8_isLoved_38 rfl ?_
            refine ih (i9 + 1) (by omega) (lt_s hno (mlb_2 h_4))
          · skip
            refine A_aload_n dX8_isLoved_23 rfl rfl ?_
            refine B_getR (r := 77) dX8_isLoved_24 flX8_50 (hM 0 _ rfl) rfl ?_
            refine A_iload_n dX8_isLoved_27 rfl rfl ?_
            refine B_ialdV (i := i9) (cKd c i9) dX8_isLoved_28 (hM 17 _ rfl) (by decide) (rfl) (by omega) (me_17 _ _ _ _) ?_
            refine A_iconst (v := 4) dX8_isLoved_29 (by decide) ?_
            refine A_icmp_ne (tgt := 35) dX8_isLoved_30 rfl (fun h_5 => ?_) (fun h_5 => ?_)
            · skip
              refine A_iinc (v := nI (i9 + 1)) (lo2 := [some (.ref 60), some (.int (nI p)), some (.int (nI (i9 + 1)))]) dX8_isLoved_35 rfl (nI_1 i9) (by decide) rfl ?_
              refine A_goto (tgt := 2) dX8_isLoved_38 rfl ?_
              refine ih (i9 + 1) (by omega) (lt_s hno (mlb_3 h_5))
            · skip
              refine A_iconst (v := 1) dX8_isLoved_33 (by decide) ?_
              refine A_zret dX8_isLoved_34 rfl (rfl) (az_pi hP ?_ (rfl))
              exact b2i_t ((mlov_p hL hO hp hg).mp ⟨i9, by omega, mlb_y (fun q => h_3 (by rw [q])) h_4 h_5⟩)
  exact loop (cN c) 0 (by omega) lt_0
