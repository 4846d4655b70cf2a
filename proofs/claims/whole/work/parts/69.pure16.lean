theorem mk0 (c : CT) (a f : Int32) (fe : Nat → Int32) : sFall (sAir (sFe c fe) a) f = sFe (sFall (sAir c a) f) fe := by rw [sc_FeAir, sc_FeFall]
/-- one that differs in air, fall and chestnuts alone -/
def mdf (c e : CT) : Prop := ∃ a f fe, e = sFe (sFall (sAir c a) f) fe ∧ ∀ j, cN c ≤ j → fe j = cFe c j
theorem mdf_self (c : CT) : c = sFe (sFall (sAir c (cAir c)) (cFall c)) (cFe c) := by simp only [sFe, sFall, sAir, cPp, cAir, cFall, cDay, cWin, cCoal, cSeed, cLov, cAway, cKd, cAa, cPr, cBr, cFe]
theorem mdf_rf (c : CT) : mdf c c := ⟨_, _, _, mdf_self c, fun _ _ => rfl⟩
theorem cAF_s (c : CT) (a : Int32) (fe : Nat → Int32) : cAF c a fe = sFe (sAir c a) fe := by simp only [cAF, sFe, sAir, cPp, cAir, cFall, cDay, cWin, cCoal, cSeed, cLov, cAway, cKd, cAa, cPr, cBr, cFe]
theorem zcool_s (k : Int32) (c : CT) : zcool k c = sFe (sAir c (mx0 (cAir c - k * cFall c))) (fun j => if j < cN c then mx0 (cFe c j - k) else cFe c j) := cAF_s _ _ _
theorem mdf_air {c e : CT} (h : mdf c e) (x : Int32) : mdf c (sAir e x) := by
  obtain ⟨a, f, fe, rfl, hf⟩ := h
  exact ⟨x, f, fe, by rw [sc_FeAir, sc_FallAir, ss_Air], hf⟩
theorem mdf_fall {c e : CT} (h : mdf c e) (x : Int32) : mdf c (sFall e x) := by
  obtain ⟨a, f, fe, rfl, hf⟩ := h
  exact ⟨a, x, fe, by rw [sc_FeFall, ss_Fall], hf⟩
theorem mdf_N {c e : CT} (h : mdf c e) : cN e = cN c := by
  obtain ⟨a, f, fe, rfl, hf⟩ := h
  rw [cn_Fe, cn_Fall, cn_Air]
theorem mdf_fe {c e : CT} (h : mdf c e) {g : Nat → Int32} (hg : ∀ j, cN c ≤ j → g j = cFe e j) : mdf c (sFe e g) := by
  obtain ⟨a, f, fe, rfl, hf⟩ := h
  exact ⟨a, f, g, by rw [ss_Fe], fun j hj => by rw [hg j hj, cs_FeFe]; exact hf j hj⟩
theorem mdf_cool {c e : CT} (h : mdf c e) (k : Int32) : mdf c (zcool k e) := by
  rw [zcool_s]
  refine mdf_fe (mdf_air h _) (fun j hj => ?_)
  rw [if_neg (by rw [mdf_N h]; omega), cs_FeAir]
theorem mdf_days {c e : CT} (h : mdf c e) : ∀ k, mdf c (zdays k e)
  | 0 => h
  | k + 1 => mdf_cool (mdf_days h k) 1
theorem mdf_mf {c e : CT} (h : mdf c e) (g : Nat → Bool) (m : Int32) {i : Nat} (hi : i ≤ cN c) : mdf c (zmf e g m i) := by
  unfold zmf
  exact mdf_fe h (fun j hj => if_neg (fun q => absurd q.1 (by omega)))
/-- what is told behind whenSo -/
def mwho (c : CT) : Int32 := if zwhen c 60 ≤ 60 then oI (zbest (zdays (zwhen c 60) c)) else -1
theorem zwhen_min {c : CT} {t : Nat} (ht : t ≤ 60) : (t < zwhen c t ↔ t < zwhen c 60) ∧ (zwhen c t = t ↔ zwhen c 60 = t) := by
  have h1 := fa_first_le (fun k => zso (zdays k c)) (t + 1)
  have h2 := fa_first_le (fun k => zso (zdays k c)) (60 + 1)
  unfold zwhen
  rcases Nat.lt_or_ge (fa_first (fun k => zso (zdays k c)) (t + 1)) (t + 1) with q | q
  · have hy := fa_first_yes _ _ q
    have hn := fa_first_no (fun k => zso (zdays k c)) (t + 1)
    have e : fa_first (fun k => zso (zdays k c)) (60 + 1) = fa_first (fun k => zso (zdays k c)) (t + 1) := fa_first_eq (by omega) hy hn
    rw [e]
    exact ⟨Iff.rfl, Iff.rfl⟩
  · have hno : ∀ k, k < t + 1 → zso (zdays k c) = false := fun k hk => fa_first_no (fun k => zso (zdays k c)) (t + 1) k (by omega)
    have h3 : t < fa_first (fun k => zso (zdays k c)) (60 + 1) := by
      rcases Nat.lt_or_ge t (fa_first (fun k => zso (zdays k c)) (60 + 1)) with z | z
      · exact z
      · have hy := fa_first_yes (fun k => zso (zdays k c)) (60 + 1) (by omega)
        rw [hno _ (by omega)] at hy
        cases hy
    exact ⟨⟨fun _ => h3, fun _ => by omega⟩, ⟨fun _ => by omega, fun _ => by omega⟩⟩
theorem zno_60 {c : CT} {t : Nat} (ht : t ≤ 60) : zno c t = decide (t < zwhen c 60) := by
  unfold zno
  exact decide_eq_decide.mpr (zwhen_min ht).1
/-- only what is kept aside, and who speaks then -/
def sD (s u : Nat → Nat → Int32) : Prop := (∀ k, k ≠ 60 → k ≠ 83 → u k = s k) ∧ ∀ j, j ≠ 31 → j ≠ 32 → j ≠ 34 → u 60 j = s 60 j
theorem sD.rf (s : Nat → Nat → Int32) : sD s s := ⟨fun _ _ _ => rfl, fun _ _ _ _ => rfl⟩
theorem sD.tr {s u v : Nat → Nat → Int32} (h : sD s u) (h2 : sD u v) : sD s v := ⟨fun k a b => (h2.1 k a b).trans (h.1 k a b), fun j a b d => (h2.2 j a b d).trans (h.2 j a b d)⟩
theorem sD.kp (u : Nat → Nat → Int32) (c : CT) : sD u (mkp u c) := by
  unfold mkp
  refine ⟨fun k a b => ?_, fun j a b d => ?_⟩
  · rw [az_up_ne b, az_w_ne a, az_w_ne a]
  · rw [az_up_ne (by decide), az_w_nj b, az_w_nj a]
theorem sD.w34 {s u : Nat → Nat → Int32} (h : sD s u) (x : Int32) : sD s (az_w u 60 34 x) := ⟨fun k a b => by rw [az_w_ne a]; exact h.1 k a b, fun j a b d => by rw [az_w_nj d]; exact h.2 j a b d⟩
theorem sD.c {s u : Nat → Nat → Int32} (h : sD s u) : sC s u := by
  refine ⟨fun k a b => h.1 k a (by omega), fun j a => h.2 j ?_ ?_ ?_⟩
  · intro e; subst e; cases a
  · intro e; subst e; cases a
  · intro e; subst e; cases a
/-! one is out of the way -/
theorem zcool_aw (c : CT) (x y : Int32) : zcool 1 (sLov (sAway c x) y) = sLov (sAway (zcool 1 c) x) y := by
  rw [zcool_s, zcool_s]
  have e1 : cN (sLov (sAway c x) y) = cN c := by rw [cn_Lov, cn_Away]
  rw [e1]
  simp only [sFe, sAir, sLov, sAway, cPp, cAir, cFall, cDay, cWin, cCoal, cSeed, cLov, cAway, cKd, cAa, cPr, cBr, cFe]
theorem zdays_aw (c : CT) (x y : Int32) : ∀ k, zdays k (sLov (sAway c x) y) = sLov (sAway (zdays k c) x) y
  | 0 => rfl
  | k + 1 => by
    show zcool 1 (zdays k _) = _
    rw [zdays_aw c x y k, zcool_aw]
    rfl
theorem sAway_id {c : CT} (h : cAway c = -1) : sAway c (-1) = c := by
  rw [← h]
  simp only [sAway, cPp, cAir, cFall, cDay, cWin, cCoal, cSeed, cLov, cAway, cKd, cAa, cPr, cBr, cFe]
theorem mput_back {u : Nat → Nat → Int32} {c : CT} (h : cAway c = -1) (p k : Nat) : mput u 60 (sAway (zdays k (zleave c p)) (-1)) = mput u 60 (zdays k c) := by
  unfold zleave
  rw [zdays_aw]
  have e : sAway (sLov (sAway (zdays k c) (nI p)) (cLov c - b2i (cKd c p = 4))) (-1) = sLov (sAway (zdays k c) (-1)) (cLov c - b2i (cKd c p = 4)) := by
    simp only [sLov, sAway, cPp, cAir, cFall, cDay, cWin, cCoal, cSeed, cLov, cAway, cKd, cAa, cPr, cBr, cFe]
  rw [e, mput_lov, sAway_id (by rw [cAw_days]; exact h)]
theorem cLv_leave {c : CT} (h : cW c) {p : Nat} (hp : p < cN c) : cLv (zleave c p) := by
  have h8 := h.1.1.2
  unfold zleave cLv mlov
  rw [cs_LovLov, cs_KdLov, cs_KdAway, cs_AwayLov, cs_AwayAway, cn_Lov, cn_Away, h.2.2.2.1]
  unfold zlov
  have e : ∀ q, q < cN c → (decide (cKd c q = 4) && !decide (nI q = nI p)) = (decide (¬ q = p) && decide (cKd c q = 4)) := by
    intro q hq
    by_cases z : q = p
    · subst z; simp
    · rw [decide_eq_false (p := nI q = nI p) (fun w => z ((nI_eq (by omega) (by omega)).mp w)), decide_eq_true (p := ¬ q = p) z, Bool.and_comm]
      rfl
  rw [fa_cnt_cong e]
  by_cases k : cKd c p = 4
  · rw [fa_cnt_split (f := fun q => decide (cKd c q = 4)) hp (decide_eq_true k), b2i, if_pos k]
    exact nI_pred _
  · rw [b2i, if_neg k, Int32.sub_zero]
    congr 1
    refine fa_cnt_cong (fun q hq => ?_)
    by_cases z : q = p
    · subst z; simp [k]
    · rw [decide_eq_true (p := ¬ q = p) z]; rfl
theorem cOk_leave {c : CT} (h : cOk c) (p : Nat) : cOk (zleave c p) := co_Lov (co_Away h)
/-! ranks: everyone has one -/
theorem zbef_pre {c : CT} {i j : Nat} : zbef c i = fa_cnt (fun k => decide (zc c i < zc c k) || (decide (k < i) && !decide (zc c k < zc c i))) (cN c) := rfl
/-- k stands ahead of i -/
def zah (c : CT) (i k : Nat) : Bool := decide (zc c i < zc c k) || (decide (k < i) && !decide (zc c k < zc c i))
theorem zah_i (c : CT) (i k : Nat) : zah c i k = true ↔ ((zc c i).toInt < (zc c k).toInt ∨ (k < i ∧ (zc c i).toInt = (zc c k).toInt)) := by
  unfold zah
  simp only [Bool.or_eq_true, Bool.and_eq_true, decide_eq_true_iff, Bool.not_eq_true', decide_eq_false_iff_not, Int32.lt_iff_toInt_lt]
  constructor
  · rintro (h | ⟨h1, h2⟩)
    · exact Or.inl h
    · by_cases q : (zc c i).toInt < (zc c k).toInt
      · exact Or.inl q
      · exact Or.inr ⟨h1, by omega⟩
  · rintro (h | ⟨h1, h2⟩)
    · exact Or.inl h
    · exact Or.inr ⟨h1, by omega⟩
theorem fa_cnt_mono {p q : Nat → Bool} : ∀ {n : Nat}, (∀ k, k < n → p k = true → q k = true) → fa_cnt p n ≤ fa_cnt q n
  | 0, _ => Nat.le_refl _
  | n + 1, h => by
    have ih := fa_cnt_mono (p := p) (q := q) (n := n) (fun k hk => h k (by omega))
    cases hp : p n
    · rw [fa_cnt_no hp]
      cases hq : q n
      · rw [fa_cnt_no hq]; exact ih
      · rw [fa_cnt_yes hq]; omega
    · rw [fa_cnt_yes hp, fa_cnt_yes (h n (by omega) hp)]; omega
theorem fa_cnt_lt {p q : Nat → Bool} {n i : Nat} (hi : i < n) (h : ∀ k, k < n → p k = true → q k = true) (h1 : p i = false) (h2 : q i = true) : fa_cnt p n < fa_cnt q n := by
  rw [fa_cnt_split hi h2]
  have := fa_cnt_mono (p := p) (q := fun o => decide (¬ o = i) && q o) (n := n) (fun k hk hp => by
    rw [h k hk hp, decide_eq_true (p := ¬ k = i) (fun e => by subst e; rw [h1] at hp; cases hp)]; rfl)
  omega
theorem zbef_inj {c : CT} {i j : Nat} (hi : i < cN c) (hj : j < cN c) (hij : ¬ i = j) : ¬ zbef c i = zbef c j := by
  have key : ∀ a b, a < cN c → b < cN c → zah c b a = true → zbef c a < zbef c b := by
    intro a b ha hb hab
    refine fa_cnt_lt (p := zah c a) (q := zah c b) ha (fun k hk hp => ?_) ?_ hab
    · have h1 := (zah_i c a k).mp hp
      have h2 := (zah_i c b a).mp hab
      exact (zah_i c b k).mpr (by omega)
    · cases hq : zah c a a
      · rfl
      · have := (zah_i c a a).mp hq; omega
  intro e
  by_cases q : zah c j i = true
  · have := key i j hi hj q; omega
  · by_cases q2 : zah c i j = true
    · have := key j i hj hi q2; omega
    · rw [zah_i] at q q2; omega
theorem zbef_lt {c : CT} {i : Nat} (hi : i < cN c) : zbef c i < cN c := by
  have h := fa_cnt_lt (p := zah c i) (q := fun _ => true) (n := cN c) hi (fun _ _ _ => rfl) (by
    cases hq : zah c i i
    · rfl
    · have := (zah_i c i i).mp hq; omega) rfl
  have h2 := fa_cnt_le (fun _ => true) (cN c)
  exact Nat.lt_of_lt_of_le h h2
/-- of so many different numbers below so many, each is there -/
theorem pigeon : ∀ (n : Nat) (f : Nat → Nat), (∀ i, i < n → f i < n) → (∀ i j, i < n → j < n → ¬ i = j → ¬ f i = f j) → ∀ m, m < n → ∃ i, i < n ∧ f i = m
  | 0, _, _, _, m, hm => absurd hm (by omega)
  | n + 1, f, h1, h2, m, hm => by
    by_cases e : f n = m
    · exact ⟨n, by omega, e⟩
    · -- the last place's number is taken out
      have hr : ∀ i, i < n → (fun i => if f i = n then f n else f i) i < n := by
        intro i hi
        show (if f i = n then f n else f i) < n
        by_cases q : f i = n
        · rw [if_pos q]
          have := h1 n (by omega)
          have := h2 i n (by omega) (by omega) (by omega)
          omega
        · rw [if_neg q]
          have := h1 i (by omega); omega
      have hinj : ∀ i j, i < n → j < n → ¬ i = j → ¬ (fun i => if f i = n then f n else f i) i = (fun i => if f i = n then f n else f i) j := by
        intro i j hi hj hij
        show ¬ (if f i = n then f n else f i) = (if f j = n then f n else f j)
        have a1 := h2 i j (by omega) (by omega) hij
        have a2 := h2 i n (by omega) (by omega) (by omega)
        have a3 := h2 j n (by omega) (by omega) (by omega)
        by_cases q : f i = n <;> by_cases q2 : f j = n <;> simp only [q, q2, if_true, if_false, ↓reduceIte] <;> omega
      by_cases q : m = n
      · -- n is the number of some place ahead of the last
        subst q
        have hfn : f m < m := by have := h1 m (by omega); omega
        obtain ⟨i, hi, hfi⟩ := pigeon m _ hr hinj (f m) hfn
        have hfi : (if f i = m then f m else f i) = f m := hfi
        by_cases z : f i = m
        · exact ⟨i, by omega, z⟩
        · rw [if_neg z] at hfi
          exact absurd hfi (h2 i m (by omega) (by omega) (by omega))
      · obtain ⟨i, hi, hfi⟩ := pigeon n _ hr hinj m (by omega)
        have hfi : (if f i = n then f n else f i) = m := hfi
        by_cases z : f i = n
        · rw [if_pos z] at hfi; exact absurd hfi e
        · rw [if_neg z] at hfi; exact ⟨i, by omega, hfi⟩
theorem zrank_ex {c : CT} (hO : cOk c) {i : Nat} (hi : i < cN c) : ∃ k, zrank c (nI i) = some k ∧ k < cN c ∧ zbef c k = i ∧ ∀ j, j < k → ¬ zbef c j = i := by
  have h8 := hO.2
  obtain ⟨k, hk, e⟩ := pigeon (cN c) (zbef c) (fun i hi => zbef_lt hi) (fun a b ha hb hab => zbef_inj ha hb hab) i hi
  have hs : ∀ j, j < cN c → (decide (nI (zbef c j) = nI i) = true ↔ zbef c j = i) := by
    intro j hj
    have := zbef_lt hj
    rw [decide_eq_true_iff, nI_eq (by omega) (by omega)]
  cases hz : zrank c (nI i) with
  | none => exact absurd ((hs k hk).mpr e) (by have := zfind_no hz hk; rw [this]; decide)
  | some m =>
    obtain ⟨m1, m2, m3⟩ := zfind_lt hz
    refine ⟨m, rfl, m1, (hs m m1).mp m2, fun j hj q => ?_⟩
    have := m3 j hj
    rw [(hs j (by omega)).mpr q] at this
    cases this
