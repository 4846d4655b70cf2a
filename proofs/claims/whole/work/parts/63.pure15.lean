/-! days by draws, countries from texts, shelves brought back: they keep the state well -/
theorem cnt_b2i (f : Nat → Bool) (i : Nat) : nI (fa_cnt f i) + b2i (f i = true) = nI (fa_cnt f (i + 1)) := by
  unfold b2i
  by_cases h : f i = true
  · rw [if_pos h, fa_cnt_yes h]; exact nI_1 _
  · rw [if_neg h, fa_cnt_no (Bool.eq_false_iff.mpr h), Int32.add_zero]
theorem cW_sSeed {c : CT} (h : cW c) (x : Int32) : cW (sSeed c x) := ⟨⟨h.1.1, h.1.2.1, h.1.2.2.1, h.1.2.2.2⟩, h.2.1, h.2.2.1, h.2.2.2.1, h.2.2.2.2⟩
theorem cW_sFall {c : CT} (h : cW c) {x : Int32} (hf : iR x 5) : cW (sFall c x) := ⟨⟨h.1.1, h.1.2.1, hf, h.1.2.2.2⟩, h.2.1, h.2.2.1, h.2.2.2.1, h.2.2.2.2⟩
theorem cN_sSeed (c : CT) (x : Int32) : cN (sSeed c x) = cN c := rfl
theorem cN_sFall (c : CT) (x : Int32) : cN (sFall c x) = cN c := rfl
theorem cPp_sSeed (c : CT) (x : Int32) : cPp (sSeed c x) = cPp c := rfl
theorem cPp_sFall (c : CT) (x : Int32) : cPp (sFall c x) = cPp c := rfl
theorem cW_seed {c : CT} (h : cW c) : cW (zseed c) := by unfold zseed; exact cW_sSeed h _
theorem cN_seed (c : CT) : cN (zseed c) = cN c := by unfold zseed; exact cN_sSeed c _
theorem cPp_seed (c : CT) : cPp (zseed c) = cPp c := by unfold zseed; exact cPp_sSeed c _
theorem cW_dw1 {c : CT} (h : cW c) : cW (zdw1 c) := by
  obtain ⟨k, hk, e⟩ := zdraw_rng (c := c) (n := 4) (by omega) (by omega)
  have hf : iR (zdraw c 4) 5 := by rw [show (4 : Int32) = nI 4 from rfl, e]; exact iR_of (m := 5) (by omega) (by decide)
  unfold zdw1
  exact cW_sFall (cW_seed h) hf
theorem cN_dw1 (c : CT) : cN (zdw1 c) = cN c := by unfold zdw1; rw [cN_sFall, cN_seed]
theorem cPp_dw1 (c : CT) : cPp (zdw1 c) = cPp c := by unfold zdw1; rw [cPp_sFall, cPp_seed]
theorem cN_more (c : CT) (p : Nat) (n : Int32) : cN (zmore c p n) = cN c := rfl
theorem cW_more {c : CT} (h : cW c) {p : Nat} (hp : p < cN c) {m : Int32} (hm : iR m 40) : cW (zmore c p m) := ⟨cRng_more h.1 hp hm, cTl_more h.2.1 (by have := h.1.1.2; omega) m, h.2.2.1, h.2.2.2.1, h.2.2.2.2⟩
theorem iR_1 : iR 1 40 := by unfold iR; decide
theorem dw_rng {c : CT} (h : cW c) : ∃ r, r ≤ cN c ∧ zdraw (zdw1 c) (cPp c + 1) = nI r := by
  obtain ⟨k, hk, e⟩ := zdraw_rng (c := zdw1 c) (n := cN c + 1) (by omega) (by have := h.1.1.2; omega)
  refine ⟨k, by omega, ?_⟩
  rw [h.1.1.1, nI_1]
  exact e
theorem cW_dw {c : CT} (h : cW c) : cW (zdw c) ∧ cN (zdw c) = cN c := by
  obtain ⟨r, hr, e⟩ := dw_rng h
  have h8 := h.1.1.2
  unfold zdw
  rw [e, nI_clamp (by omega)]
  by_cases q : r < cN c
  · rw [if_pos q]
    exact ⟨cW_more (cW_seed (cW_dw1 h)) (by rw [cN_seed, cN_dw1]; exact q) iR_1, by rw [cN_more, cN_seed, cN_dw1]⟩
  · rw [if_neg q]
    exact ⟨cW_seed (cW_dw1 h), by rw [cN_seed, cN_dw1]⟩
theorem cW_dwn {c : CT} (h : cW c) : ∀ k, cW (zdwn k c) ∧ cN (zdwn k c) = cN c
  | 0 => ⟨h, rfl⟩
  | k + 1 => ⟨cW_pass (cW_dw (cW_dwn h k).1).1, (cN_pass _).trans ((cW_dw (cW_dwn h k).1).2.trans (cW_dwn h k).2)⟩
theorem kx_feedDraw (l : Launch) (G : az_Gh) (d : Nat) (sh : List az_Sh) (sg : Nat → Nat → Int32) (la : Nat → Nat → Int64) (c : CT) (hC : az_at sh 1 (lyC 1)) (h : cW c) : FM l G (d + 1) mX2_feedMore [.ref 1, .int (zdraw (zdw1 c) (cPp c + 1)), .int 1] (sh, zput sg 1 (zseed (zdw1 c)), la) none (sh, zput sg 1 (zdw c), la) := by
  obtain ⟨r, hr, e⟩ := dw_rng h
  have h8 := h.1.1.2
  unfold zdw
  rw [e, nI_clamp (by omega)]
  by_cases q : r < cN c
  · rw [if_pos q]
    exact z_X2_feedMore l G d sh sg la 1 (zseed (zdw1 c)) r 1 hC (cW_seed (cW_dw1 h)).1.1 (by rw [cN_seed, cN_dw1]; exact q)
  · rw [if_neg q]
    exact z_X2_feedMore_no l G d sh sg la 1 (zseed (zdw1 c)) r 1 hC (cW_seed (cW_dw1 h)).1.1 (by omega) (by rw [cN_seed, cN_dw1]; exact q)
/-- what is read keeps the country well -/
theorem znum_iR {T : Nat → Int32} {m e k : Nat} (hk : k < 1000) (he : e ≤ m) (h : ¬ znum T m e (nI k) = -1) : iR (znum T m e (nI k)) k := by
  obtain ⟨v, hv, e1, h2⟩ := znum_rng he h
  rw [e1]
  exact iR_of ((nI_leI (by omega) (by omega)).mp h2) (by omega)
theorem cW_per {T : Nat → Int32} {m e : Nat} {c : CT} (he : e ≤ m) (h : cW c) (h7 : cN c < 8) : cW (zper T m e c).2.2 ∧ cN c ≤ cN (zper T m e c).2.2 := by
  by_cases q1 : znum T m e 5 = -1
  · rw [zper_1 q1]; exact ⟨h, Nat.le_refl _⟩
  · by_cases q2 : znum T m (znx T m e) 9 = -1
    · rw [zper_2 q1 q2]; exact ⟨h, Nat.le_refl _⟩
    · by_cases q3 : znum T m (znx T m (znx T m e)) 20 = -1
      · rw [zper_3 q1 q2 q3]; exact ⟨h, Nat.le_refl _⟩
      · rw [zper_4 q1 q2 q3]
        refine ⟨cW_settle h h7 (znum_iR (k := 5) (by omega) he q1) (znum_iR (k := 9) (by omega) (znx_le he) q2) (znum_iR (k := 20) (by omega) (znx_le (znx_le he)) q3), ?_⟩
        show cN c ≤ cN (zsettle _ _ _ _)
        rw [cN_settle h.1.1 h7]; omega
theorem cW_chg {T : Nat → Int32} {m e : Nat} {c : CT} {w : Nat} (he : e ≤ m) (hw : w ≤ 3) (h : cW c) : cW (zchg T m e c w).2.2 ∧ cN c ≤ cN (zchg T m e c w).2.2 := by
  unfold zchg
  by_cases q : znum T m (znx T m e) (zmt w) = -1
  · rw [if_pos q]; exact ⟨h, Nat.le_refl _⟩
  · rw [if_neg q]
    obtain ⟨v, hv, e1, h2⟩ := znum_rng (znx_le he) q
    refine ⟨cW_set h ⟨?_, ?_⟩, Nat.le_of_eq (cN_set _ _ _).symm⟩
    · rw [e1]; exact nI_pos' (by omega)
    · rw [e1]; exact h2
theorem zpor_f {T : Nat → Int32} {m e N k : Nat} {f : Nat → Int32} (he : e ≤ m) (hN : N ≤ 8) (hk : k < 1000) (h1 : ∀ p, p < N → iR (f p) k) (h2 : ∀ j, 8 ≤ j → f j = 0) : (∀ p, p < N → iR ((zpor T m e f N (nI k)).2.2 p) k) ∧ ∀ j, 8 ≤ j → (zpor T m e f N (nI k)).2.2 j = 0 := by
  by_cases q1 : znum T m e (nI N - 1) = -1
  · rw [zpor_1 q1]; exact ⟨h1, h2⟩
  · by_cases q2 : znum T m (znx T m e) (nI k) = -1
    · rw [zpor_2 q1 q2]; exact ⟨h1, h2⟩
    · obtain ⟨w, hw, e1, hw2⟩ := znum_rng he q1
      have hw8 := znum_N hN hw hw2
      rw [zpor_3 q1 q2 e1 hw]
      refine ⟨fun p hp => ?_, fun j hj => ?_⟩
      · show iR (va_up f w _ p) k
        by_cases q : p = w
        · subst q; rw [az_up_self]; exact znum_iR hk (znx_le he) q2
        · rw [az_up_ne q]; exact h1 p hp
      · show va_up f w _ j = 0
        rw [az_up_ne (by omega)]; exact h2 j hj
theorem cW_stm {T : Nat → Int32} {m e : Nat} {c : CT} (he : e ≤ m) (h : cW c) : cW (zstm T m e c).2.2 ∧ cN c ≤ cN (zstm T m e c).2.2 := by
  have h8 := h.1.1.2
  have hx := znx_le (T := T) he
  unfold zstm
  by_cases w0 : zwk T m e 0 = true
  · rw [if_pos w0]
    by_cases h7 : cN c < 8
    · rw [if_pos h7]; exact cW_per hx h h7
    · rw [if_neg h7]; exact ⟨h, Nat.le_refl _⟩
  · rw [if_neg w0]
    by_cases w1 : zwk T m e 1 = true
    · rw [if_pos w1]
      have q := zpor_f (T := T) (k := 40) (f := cFe c) (N := cN c) hx h8 (by omega) (fun p hp => (h.1.2.2.2 p hp).2.2.1) (fun j hj => (h.2.1 j hj).2.2.2.2)
      exact ⟨cW_feF h q.1 q.2, Nat.le_refl _⟩
    · rw [if_neg w1]
      by_cases w2 : zwk T m e 2 = true
      · rw [if_pos w2]
        have q := zpor_f (T := T) (k := 9) (f := cBr c) (N := cN c) hx h8 (by omega) (fun p hp => (h.1.2.2.2 p hp).2.1) (fun j hj => (h.2.1 j hj).2.2.2.1)
        refine ⟨⟨⟨h.1.1, h.1.2.1, h.1.2.2.1, fun p hp => ⟨(h.1.2.2.2 p hp).1, q.1 p hp, (h.1.2.2.2 p hp).2.2⟩⟩, fun j hj => ⟨(h.2.1 j hj).1, (h.2.1 j hj).2.1, (h.2.1 j hj).2.2.1, q.2 j hj, (h.2.1 j hj).2.2.2.2⟩, h.2.2.1, h.2.2.2.1, h.2.2.2.2⟩, Nat.le_refl _⟩
      · rw [if_neg w2]
        by_cases w3 : zwk T m e 3 = true
        · rw [if_pos w3]; exact cW_chg he (by omega) h
        · rw [if_neg w3]
          by_cases w4 : zwk T m e 4 = true
          · rw [if_pos w4]; exact cW_chg he (by omega) h
          · rw [if_neg w4]
            by_cases w5 : zwk T m e 5 = true
            · rw [if_pos w5]; exact cW_chg he (by omega) h
            · rw [if_neg w5]
              by_cases w6 : zwk T m e 6 = true
              · rw [if_pos w6]; exact cW_chg he (by omega) h
              · rw [if_neg w6]; exact ⟨h, Nat.le_refl _⟩
theorem cW_rd {T : Nat → Int32} {m : Nat} : ∀ (f i e : Nat) (c : CT), e ≤ m → cW c → cW (zrd T m f i e c).2 ∧ cN c ≤ cN (zrd T m f i e c).2
  | 0, _, _, c, _, h => ⟨h, Nat.le_refl _⟩
  | f + 1, i, e, c, he, h => by
    have hs := cW_stm (T := T) he h
    by_cases q1 : (zstm T m e c).1 = true
    · by_cases q2 : (zst3 T m (znx T m (zstm T m e c).2.1)).1 = 0
      · rw [zrd_2 q1 q2]; exact hs
      · by_cases q3 : (zst3 T m (znx T m (zstm T m e c).2.1)).1 = 3
        · rw [zrd_4 q1 q2 q3]
          have hr := cW_rd (T := T) f (i + 1) (znx T m (znx T m (zstm T m e c).2.1)) (zstm T m e c).2.2 (znx_le (znx_le (zstm_el he).1)) hs.1
          exact ⟨hr.1, Nat.le_trans hs.2 hr.2⟩
        · rw [zrd_3 q1 q2 q3]; exact hs
    · rw [zrd_1 q1]; exact hs
/-- the cells alone -/
def K0 (g : GGM) (sg : Nat → Nat → Int32) (la : Nat → Nat → Int64) (σ : SGM) : Prop :=
  ct sg 1 = xN σ ∧ (sg 0 9 = b2i ((xK σ).isSome = true) ∧ (∀ k, xK σ = some k → ct sg 7 = k) ∧ cTl (ct sg 7)) ∧ (sg 40 1 = nI (xTn σ) ∧ sg 41 = xTb σ) ∧ (∀ s, s < 8 → kSh sg la s (xS σ s)) ∧ (∀ k, k < 5 → sg 43 k = xR σ k) ∧ kTl sg ∧ ∀ k, 60 ≤ k → sg k = g.1 k ∧ la k = g.2 k
theorem KX.k0 {g : GGM} {sg : Nat → Nat → Int32} {la : Nat → Nat → Int64} {σ : SGM} (h : KX g sg la σ) : K0 g sg la σ := h.2
theorem K0.kx {g : GGM} {sg : Nat → Nat → Int32} {la : Nat → Nat → Int64} {σ : SGM} (h : K0 g sg la σ) (hw : WF σ) : KX g sg la σ := ⟨hw, h⟩
theorem K0.setN {g : GGM} {sg : Nat → Nat → Int32} {la : Nat → Nat → Int64} {σ : SGM} (h : K0 g sg la σ) {c : CT} : K0 g (zput sg 1 c) la (yN σ c) := by
  obtain ⟨h2, ⟨h3, h4, h5⟩, ⟨h6, h7⟩, h8, h9, h10, h11⟩ := h
  have hn : ∀ i, i < 1 ∨ 7 ≤ i → zput sg 1 c i = sg i := fun i hi => zput_ne (by omega)
  have e7 : ct (zput sg 1 c) 7 = ct sg 7 := ct_put (by omega)
  refine ⟨ct_zput _ _ _, ⟨?_, ?_, ?_⟩, ⟨?_, ?_⟩, ?_, ?_, ?_, ?_⟩
  · rw [hn 0 (by omega)]; exact h3
  · rw [e7]; exact h4
  · rw [e7]; exact h5
  · rw [hn 40 (by omega)]; exact h6
  · rw [hn 41 (by omega)]; exact h7
  · intro s hs
    obtain ⟨q1, q2, q3, q4⟩ := h8 s hs
    unfold kSh
    rw [hn (44 + 2 * s) (by omega)]
    exact ⟨q1, q2, q3, q4⟩
  · intro i hi; rw [hn 43 (by omega)]; exact h9 i hi
  · exact h10.cong (fun i q1 q2 => hn i (by omega))
  · intro i hi; rw [hn i (by omega)]; exact h11 i hi
theorem K0.setS {g : GGM} {sg : Nat → Nat → Int32} {la : Nat → Nat → Int64} {σ : SGM} (h : K0 g sg la σ) {s' : Nat → Nat → Int32} {s : Nat} {f : SHF} (hs : s < 8) (he : ∀ k, k ≠ 44 + 2 * s → s' k = sg k) (e1 : kSh s' la s f) : K0 g s' la (yS σ (va_up (xS σ) s f)) := by
  obtain ⟨h2, ⟨h3, h4, h5⟩, ⟨h6, h7⟩, h8, h9, h10, h11⟩ := h
  have e7 : ct s' 7 = ct sg 7 := ct_cong (fun k q1 q2 => he k (by omega))
  refine ⟨?_, ⟨?_, ?_, ?_⟩, ⟨?_, ?_⟩, ?_, ?_, ?_, ?_⟩
  · rw [ct_cong (fun k q1 q2 => he k (by omega))]; exact h2
  · rw [he 0 (by omega)]; exact h3
  · rw [e7]; exact h4
  · rw [e7]; exact h5
  · rw [he 40 (by omega)]; exact h6
  · rw [he 41 (by omega)]; exact h7
  · intro i hi
    show kSh s' la i (va_up (xS σ) s f i)
    by_cases e : i = s
    · subst e; rw [az_up_self]; exact e1
    · rw [az_up_ne e]
      obtain ⟨q1, q2, q3, q4⟩ := h8 i hi
      unfold kSh
      rw [he (44 + 2 * i) (by omega)]
      exact ⟨q1, q2, q3, q4⟩
  · intro i hi; rw [he 43 (by omega)]; exact h9 i hi
  · exact h10.cong (fun i q1 q2 => he i (by omega))
  · intro i hi; rw [he i (by omega)]; exact h11 i hi
theorem zbk_0 (c : CT) (f : Nat → SHF) : zbk c 0 f = f := funext fun s => if_neg (fun q => absurd q.1 (by omega))
theorem zbk_at (c : CT) (f : Nat → SHF) (i : Nat) : zbk c i f i = f i := if_neg (fun q => absurd q.1 (by omega))
theorem zbk_y {c : CT} {f : Nat → SHF} {i : Nat} (h1 : ¬ fSh (f i) = -1) (h2 : ¬ (0 ≤ fSh (f i) ∧ fSh (f i) < cPp c)) : va_up (zbk c i f) i (-1, 0, -1, fEl (f i)) = zbk c (i + 1) f := by
  funext s
  by_cases e : s = i
  · subst e
    rw [az_up_self]
    exact (if_pos ⟨by omega, h1, h2⟩).symm
  · rw [az_up_ne e]
    unfold zbk
    by_cases q : s < i ∧ ¬ fSh (f s) = -1 ∧ ¬ (0 ≤ fSh (f s) ∧ fSh (f s) < cPp c)
    · rw [if_pos q, if_pos ⟨by omega, q.2⟩]
    · rw [if_neg q, if_neg (fun z => q ⟨by omega, z.2⟩)]
theorem zbk_n {c : CT} {f : Nat → SHF} {i : Nat} (h : fSh (f i) = -1 ∨ (0 ≤ fSh (f i) ∧ fSh (f i) < cPp c)) : zbk c i f = zbk c (i + 1) f := by
  funext s
  unfold zbk
  by_cases q : s < i ∧ ¬ fSh (f s) = -1 ∧ ¬ (0 ≤ fSh (f s) ∧ fSh (f s) < cPp c)
  · rw [if_pos q, if_pos ⟨by omega, q.2⟩]
  · rw [if_neg q, if_neg (fun z => by
      by_cases e : s = i
      · subst e; exact h.elim z.2.1 z.2.2
      · exact q ⟨by omega, z.2⟩)]
theorem WF_bk {σ : SGM} (h : WF σ) {c : CT} (hc : xK σ = some c) : WF (yS (yN σ c) (zbk c 8 (xS σ))) := by
  refine ⟨h.2.1 c hc, h.2.1, h.2.2.1, fun s hs => ?_⟩
  show fW (cN c) (zbk c 8 (xS σ) s)
  obtain ⟨a1, a2, a3, a4, a5⟩ := h.2.2.2 s hs
  unfold zbk
  by_cases q : s < 8 ∧ ¬ fSh (xS σ s) = -1 ∧ ¬ (0 ≤ fSh (xS σ s) ∧ fSh (xS σ s) < cPp c)
  · rw [if_pos q]
    exact ⟨Or.inl rfl, Nat.zero_le _, fun _ => rfl, fun _ => rfl, Or.inl rfl⟩
  · rw [if_neg q]
    refine ⟨a1, a2, a3, a4, ?_⟩
    by_cases e : fSh (xS σ s) = -1
    · exact Or.inl e
    · exact Or.inr (nI_exp (h.2.1 c hc).1.1 (Decidable.byContradiction (fun z => q ⟨hs, e, z⟩)))
