/-! the state of the world, as a value -/
abbrev SHF : Type := Int32 × Nat × Int32 × (Nat → Int64)
abbrev SGM : Type := CT × Option CT × (Nat × (Nat → Int32)) × (Nat → SHF) × (Nat → Int32)
abbrev GGM : Type := (Nat → Nat → Int32) × (Nat → Nat → Int64)
def xN (σ : SGM) : CT := σ.1
def xK (σ : SGM) : Option CT := σ.2.1
def xTn (σ : SGM) : Nat := σ.2.2.1.1
def xTb (σ : SGM) : Nat → Int32 := σ.2.2.1.2
def xS (σ : SGM) : Nat → SHF := σ.2.2.2.1
def xR (σ : SGM) : Nat → Int32 := σ.2.2.2.2
def fSo (f : SHF) : Int32 := f.1
def fSz (f : SHF) : Nat := f.2.1
def fSh (f : SHF) : Int32 := f.2.2.1
def fEl (f : SHF) : Nat → Int64 := f.2.2.2
def yN (σ : SGM) (c : CT) : SGM := (c, σ.2)
def yK (σ : SGM) (c : CT) : SGM := (σ.1, some c, σ.2.2)
def yT (σ : SGM) (n : Nat) (b : Nat → Int32) : SGM := (σ.1, σ.2.1, (n, b), σ.2.2.2)
def yS (σ : SGM) (f : Nat → SHF) : SGM := (σ.1, σ.2.1, σ.2.2.1, f, σ.2.2.2.2)
def yR (σ : SGM) (f : Nat → Int32) : SGM := (σ.1, σ.2.1, σ.2.2.1, σ.2.2.2.1, f)
def rfs (σ : SGM) (k : Nat) : SGM := yR σ (va_up (xR σ) k (xR σ k + 1))
/-- a refusal -/
def qr (σ : SGM) (f : Int32) : Int32 × SGM := (f, rfs σ (-2 - f).toNatClampNeg)
def zlov (c : CT) : Nat := fa_cnt (fun p => decide (cKd c p = 4)) (cN c)
def cW (c : CT) : Prop := cRng c ∧ cTl c ∧ cAway c = -1 ∧ cLov c = nI (zlov c) ∧ iR (cDay c) 999
def fW (n : Nat) (f : SHF) : Prop := (fSo f = -1 ∨ ∃ t, t ≤ 4 ∧ fSo f = nI t) ∧ fSz f ≤ 40 ∧ (¬ fSo f = -1 → fSh f = -1) ∧ (fSo f = -1 → fSz f = 0) ∧ (fSh f = -1 ∨ ∃ p, p < n ∧ fSh f = nI p)
def WF (σ : SGM) : Prop := cW (xN σ) ∧ (∀ k, xK σ = some k → cW k) ∧ xTn σ ≤ 250 ∧ ∀ s, s < 8 → fW (cN (xN σ)) (xS σ s)
def kTl (sg : Nat → Nat → Int32) : Prop := cTl (ct sg 14) ∧ cTl (ct sg 21) ∧ cTl (ct sg 30) ∧ (∀ j, 41 ≤ j → sg 27 j = 0) ∧ (∀ j, 41 ≤ j → sg 28 j = 0) ∧ (∀ j, 8 ≤ j → sg 38 j = 0) ∧ (∀ j, 256 ≤ j → sg 39 j = 0)
def kSh (sg : Nat → Nat → Int32) (la : Nat → Nat → Int64) (s : Nat) (f : SHF) : Prop := sg (44 + 2 * s) 1 = fSo f ∧ sg (44 + 2 * s) 2 = nI (fSz f) ∧ sg (44 + 2 * s) 3 = fSh f ∧ la (44 + 2 * s + 1) = fEl f
/-- the class's cells hold a state; cells from 60 on are as they were -/
def KX (g : GGM) (sg : Nat → Nat → Int32) (la : Nat → Nat → Int64) (σ : SGM) : Prop :=
  WF σ ∧ ct sg 1 = xN σ ∧ (sg 0 9 = b2i ((xK σ).isSome = true) ∧ (∀ k, xK σ = some k → ct sg 7 = k) ∧ cTl (ct sg 7)) ∧ (sg 40 1 = nI (xTn σ) ∧ sg 41 = xTb σ) ∧ (∀ s, s < 8 → kSh sg la s (xS σ s)) ∧ (∀ k, k < 5 → sg 43 k = xR σ k) ∧ kTl sg ∧ ∀ k, 60 ≤ k → sg k = g.1 k ∧ la k = g.2 k
def XQ (sh : List az_Sh) (g : GGM) (v : Value) (σ : SGM) : Option Value → az_St → Prop := fun r S1 => r = some v ∧ ∃ sg la, S1 = (sh, sg, la) ∧ KX g sg la σ
theorem XQ_i {sh : List az_Sh} {g : GGM} {q : Int32 × SGM} {v : Int32} {σ : SGM} {sg : Nat → Nat → Int32} {la : Nat → Nat → Int64} (h : q = (v, σ)) (hK : KX g sg la σ) : XQ sh g (.int q.1) q.2 (some (.int v)) (sh, sg, la) := by
  subst h; exact ⟨rfl, sg, la, rfl, hK⟩
theorem XQ_0 {sh : List az_Sh} {g : GGM} {q v : Int32} {σ : SGM} {sg : Nat → Nat → Int32} {la : Nat → Nat → Int64} (h : q = v) (hK : KX g sg la σ) : XQ sh g (.int q) σ (some (.int v)) (sh, sg, la) := by
  subst h; exact ⟨rfl, sg, la, rfl, hK⟩
theorem XQ_l {sh : List az_Sh} {g : GGM} {q v : Int64} {σ : SGM} {sg : Nat → Nat → Int32} {la : Nat → Nat → Int64} (h : q = v) (hK : KX g sg la σ) : XQ sh g (.long q) σ (some (.long v)) (sh, sg, la) := by
  subst h; exact ⟨rfl, sg, la, rfl, hK⟩
theorem ct_cong {s s' : Nat → Nat → Int32} {o : Nat} (h : ∀ k, o ≤ k → k < o + 6 → s' k = s k) : ct s' o = ct s o := by
  unfold ct
  rw [h o (Nat.le_refl _) (by omega), h (o + 1) (by omega) (by omega), h (o + 2) (by omega) (by omega), h (o + 3) (by omega) (by omega), h (o + 4) (by omega) (by omega), h (o + 5) (by omega) (by omega)]
theorem nI_ex {x : Int32} {m : Nat} (h : 0 ≤ x ∧ x ≤ nI m) : ∃ k, k ≤ m ∧ x = nI k := by
  obtain ⟨j, hj, e⟩ := nI_of (x := x) (Int32.not_lt.mpr h.1)
  subst e
  refine ⟨j, ?_, rfl⟩
  rcases Nat.lt_or_ge m j with q | q
  · exact absurd h.2 (nI_ge q hj)
  · exact q
theorem nI_exp {x : Int32} {c : CT} (hO : cOk c) (h : 0 ≤ x ∧ x < cPp c) : ∃ k, k < cN c ∧ x = nI k := by
  have h2 := h.2
  rw [hO.1] at h2
  exact ⟨_, nI_nat_lt h.1 h2 (by have := hO.2; omega), nI_nat h.1⟩
section KX
variable {g : GGM} {sg : Nat → Nat → Int32} {la : Nat → Nat → Int64} {σ : SGM}
theorem KX.wf (h : KX g sg la σ) : WF σ := h.1
theorem KX.now (h : KX g sg la σ) : ct sg 1 = xN σ := h.2.1
theorem KX.cw (h : KX g sg la σ) : cW (xN σ) := h.1.1
theorem KX.tl (h : KX g sg la σ) : kTl sg := h.2.2.2.2.2.2.1
theorem KX.sh (h : KX g sg la σ) {s : Nat} (hs : s < 8) : kSh sg la s (xS σ s) := h.2.2.2.2.1 s hs
theorem KX.fw (h : KX g sg la σ) {s : Nat} (hs : s < 8) : fW (cN (xN σ)) (xS σ s) := h.1.2.2.2 s hs
/-- only scratch cells change -/
theorem KX.scr {sg' : Nat → Nat → Int32} (h : KX g sg la σ) (he : ∀ k, k < 13 ∨ 40 ≤ k → sg' k = sg k) (ht : kTl sg') : KX g sg' la σ := by
  obtain ⟨h1, h2, ⟨h3, h4, h5⟩, ⟨h6, h7⟩, h8, h9, _, h11⟩ := h
  have e7 : ct sg' 7 = ct sg 7 := ct_cong (fun k q1 q2 => he k (by omega))
  refine ⟨h1, ?_, ⟨?_, ?_, ?_⟩, ⟨?_, ?_⟩, ?_, ?_, ht, ?_⟩
  · rw [ct_cong (fun k q1 q2 => he k (by omega))]; exact h2
  · rw [he 0 (by omega)]; exact h3
  · rw [e7]; exact h4
  · rw [e7]; exact h5
  · rw [he 40 (by omega)]; exact h6
  · rw [he 41 (by omega)]; exact h7
  · intro s hs
    obtain ⟨q1, q2, q3, q4⟩ := h8 s hs
    unfold kSh
    rw [he (44 + 2 * s) (by omega)]
    exact ⟨q1, q2, q3, q4⟩
  · intro k hk; rw [he 43 (by omega)]; exact h9 k hk
  · intro k hk; rw [he k (by omega)]; exact h11 k hk
theorem KX.z1 (h : KX g sg la σ) : zput sg 1 (xN σ) = sg := by rw [← h.now, zput_self]
theorem KX.on1 (h : KX g sg la σ) : KX g (zput sg 1 (xN σ)) la σ := by rw [h.z1]; exact h
theorem KX.put14 (h : KX g sg la σ) {e : CT} (he : cTl e) : KX g (zput sg 14 e) la σ := by
  refine h.scr (fun k hk => zput_ne (by omega)) ?_
  obtain ⟨t1, t2, t3, t4, t5, t6, t7⟩ := h.tl
  refine ⟨by rw [ct_zput]; exact he, by rw [ct_put (by omega)]; exact t2, by rw [ct_put (by omega)]; exact t3, ?_, ?_, ?_, ?_⟩
  · rw [zput_ne (by omega)]; exact t4
  · rw [zput_ne (by omega)]; exact t5
  · rw [zput_ne (by omega)]; exact t6
  · rw [zput_ne (by omega)]; exact t7
theorem KX.w13 (h : KX g sg la σ) (x : Int32) : KX g (az_w sg 13 1 x) la σ := by
  refine h.scr (fun k hk => az_w_ne (by omega)) ?_
  obtain ⟨t1, t2, t3, t4, t5, t6, t7⟩ := h.tl
  refine ⟨by rw [ct_w (by omega)]; exact t1, by rw [ct_w (by omega)]; exact t2, by rw [ct_w (by omega)]; exact t3, ?_, ?_, ?_, ?_⟩
  · rw [az_w_ne (by omega)]; exact t4
  · rw [az_w_ne (by omega)]; exact t5
  · rw [az_w_ne (by omega)]; exact t6
  · rw [az_w_ne (by omega)]; exact t7
theorem KX.chan (h : KX g sg la σ) {k : Int32} {W Q : Nat → Int32} {e : CT} (he : cTl e) (hW : ∀ j, 41 ≤ j → W j = 0) (hQ : ∀ j, 41 ≤ j → Q j = 0) : KX g (zput (zU sg 20 k W Q) 21 e) la σ := by
  refine h.scr (fun i hi => (zput_ne (by omega)).trans (zU_ne ⟨by omega, by omega, by omega⟩)) ?_
  obtain ⟨t1, t2, t3, t4, t5, t6, t7⟩ := h.tl
  refine ⟨by rw [ct_put (by omega), ct_U (by omega)]; exact t1, by rw [ct_zput]; exact he, by rw [ct_put (by omega), ct_U (by omega)]; exact t3, ?_, ?_, ?_, ?_⟩
  · rw [zput_ne (by omega)]; exact fun j hj => by rw [show zU sg 20 k W Q 27 = W from zU_7 _ _ _ _ _]; exact hW j hj
  · rw [zput_ne (by omega)]; exact fun j hj => by rw [show zU sg 20 k W Q 28 = Q from zU_8 _ _ _ _ _]; exact hQ j hj
  · rw [zput_ne (by omega), zU_ne ⟨by omega, by omega, by omega⟩]; exact t6
  · rw [zput_ne (by omega), zU_ne ⟨by omega, by omega, by omega⟩]; exact t7
theorem KX.turn (h : KX g sg la σ) {f : Nat → Int32} {e : CT} (he : cTl e) : KX g (zput (va_up sg 36 f) 30 e) la σ := by
  have hu : ∀ k, ¬ k = 36 → va_up sg 36 f k = sg k := fun k hk => az_up_ne hk
  refine h.scr (fun i hi => (zput_ne (by omega)).trans (hu i (by omega))) ?_
  obtain ⟨t1, t2, t3, t4, t5, t6, t7⟩ := h.tl
  refine ⟨?_, ?_, by rw [ct_zput]; exact he, ?_, ?_, ?_, ?_⟩
  · rw [ct_put (by omega), ct_cong (fun k q1 q2 => hu k (by omega))]; exact t1
  · rw [ct_put (by omega), ct_cong (fun k q1 q2 => hu k (by omega))]; exact t2
  · rw [zput_ne (by omega), hu _ (by omega)]; exact t4
  · rw [zput_ne (by omega), hu _ (by omega)]; exact t5
  · rw [zput_ne (by omega), hu _ (by omega)]; exact t6
  · rw [zput_ne (by omega), hu _ (by omega)]; exact t7
theorem KX.bowl (h : KX g sg la σ) {k : Int32} {B W : Nat → Int32} (hB : ∀ j, 8 ≤ j → B j = 0) (hW : ∀ j, 256 ≤ j → W j = 0) : KX g (zB sg 37 k B W) la σ := by
  refine h.scr (fun i hi => zB_ne (by omega)) ?_
  obtain ⟨t1, t2, t3, t4, t5, t6, t7⟩ := h.tl
  refine ⟨?_, ?_, ?_, ?_, ?_, ?_, ?_⟩
  · rw [ct_cong (fun k q1 q2 => zB_ne (by omega))]; exact t1
  · rw [ct_cong (fun k q1 q2 => zB_ne (by omega))]; exact t2
  · rw [ct_cong (fun k q1 q2 => zB_ne (by omega))]; exact t3
  · rw [zB_ne (by omega)]; exact t4
  · rw [zB_ne (by omega)]; exact t5
  · rw [show zB sg 37 k B W 38 = B from zB_1 _ _ _ _ _]; exact hB
  · rw [show zB sg 37 k B W 39 = W from zB_2 _ _ _ _ _]; exact hW
theorem WF.rfs (h : WF σ) (k : Nat) : WF (rfs σ k) := h
theorem kTl.cong {s' : Nat → Nat → Int32} (h : kTl sg) (he : ∀ k, 13 ≤ k → k < 40 → s' k = sg k) : kTl s' := by
  obtain ⟨t1, t2, t3, t4, t5, t6, t7⟩ := h
  refine ⟨?_, ?_, ?_, ?_, ?_, ?_, ?_⟩
  · rw [ct_cong (fun k q1 q2 => he k (by omega) (by omega))]; exact t1
  · rw [ct_cong (fun k q1 q2 => he k (by omega) (by omega))]; exact t2
  · rw [ct_cong (fun k q1 q2 => he k (by omega) (by omega))]; exact t3
  · rw [he 27 (by omega) (by omega)]; exact t4
  · rw [he 28 (by omega) (by omega)]; exact t5
  · rw [he 38 (by omega) (by omega)]; exact t6
  · rw [he 39 (by omega) (by omega)]; exact t7
theorem KX.ref (h : KX g sg la σ) {k : Nat} (hk : k < 5) : KX g (az_w sg 43 k (sg 43 k + 1)) la (rfs σ k) := by
  obtain ⟨h1, h2, ⟨h3, h4, h5⟩, ⟨h6, h7⟩, h8, h9, h10, h11⟩ := h
  have hn : ∀ i, ¬ i = 43 → az_w sg 43 k (sg 43 k + 1) i = sg i := fun i hi => az_w_ne hi
  have e7 : ct (az_w sg 43 k (sg 43 k + 1)) 7 = ct sg 7 := ct_w (by omega)
  refine ⟨h1, ?_, ⟨?_, ?_, ?_⟩, ⟨?_, ?_⟩, ?_, ?_, ?_, ?_⟩
  · rw [ct_w (by omega)]; exact h2
  · rw [hn 0 (by omega)]; exact h3
  · rw [e7]; exact h4
  · rw [e7]; exact h5
  · rw [hn 40 (by omega)]; exact h6
  · rw [hn 41 (by omega)]; exact h7
  · intro s hs
    obtain ⟨q1, q2, q3, q4⟩ := h8 s hs
    unfold kSh
    rw [hn (44 + 2 * s) (by omega)]
    exact ⟨q1, q2, q3, q4⟩
  · intro i hi
    show _ = va_up (xR σ) k (xR σ k + 1) i
    by_cases e : i = k
    · subst e; rw [az_w_at, az_up_self, h9 i hi]
    · rw [az_w_nj e, az_up_ne e]; exact h9 i hi
  · exact h10.cong (fun i q1 q2 => hn i (by omega))
  · intro i hi; rw [hn i (by omega)]; exact h11 i hi
/-- the country changes -/
theorem KX.setN (h : KX g sg la σ) {c : CT} (hw : WF (yN σ c)) : KX g (zput sg 1 c) la (yN σ c) := by
  obtain ⟨h1, h2, ⟨h3, h4, h5⟩, ⟨h6, h7⟩, h8, h9, h10, h11⟩ := h
  have hn : ∀ i, i < 1 ∨ 7 ≤ i → zput sg 1 c i = sg i := fun i hi => zput_ne (by omega)
  have e7 : ct (zput sg 1 c) 7 = ct sg 7 := ct_put (by omega)
  refine ⟨hw, ct_zput _ _ _, ⟨?_, ?_, ?_⟩, ⟨?_, ?_⟩, ?_, ?_, ?_, ?_⟩
  · rw [hn 0 (by omega)]; exact h3
  · rw [e7]; exact h4
  · rw [e7]; exact h5
  · rw [hn 40 (by omega)]; exact h6
  · rw [hn 41 (by omega)]; exact h7
  · intro s hs
    obtain ⟨q1, q2, q3, q4⟩ := h8 s hs
    unfold kSh
    rw [hn (44 + 2 * s) (by omega)]
    exact ⟨q1, q2, q3, q4⟩
  · intro i hi; rw [hn 43 (by omega)]; exact h9 i hi
  · exact h10.cong (fun i q1 q2 => hn i (by omega))
  · intro i hi; rw [hn i (by omega)]; exact h11 i hi
theorem KX.setK (h : KX g sg la σ) (hw : WF (yK σ (xN σ))) : KX g (az_w (zput sg 7 (xN σ)) 0 9 1) la (yK σ (xN σ)) := by
  obtain ⟨h1, h2, ⟨h3, h4, h5⟩, ⟨h6, h7⟩, h8, h9, h10, h11⟩ := h
  have hn : ∀ i, (0 < i ∧ i < 7) ∨ 13 ≤ i → az_w (zput sg 7 (xN σ)) 0 9 1 i = sg i := fun i hi => (az_w_ne (by omega)).trans (zput_ne (by omega))
  have e7 : ct (az_w (zput sg 7 (xN σ)) 0 9 1) 7 = xN σ := by rw [ct_w (by omega), ct_zput]
  refine ⟨hw, ?_, ⟨?_, ?_, ?_⟩, ⟨?_, ?_⟩, ?_, ?_, ?_, ?_⟩
  · rw [ct_cong (fun k q1 q2 => hn k (by omega))]; exact h2
  · rw [az_w_at]; rfl
  · rw [e7]; intro k hk; exact Option.some.inj hk
  · rw [e7]; exact h1.1.2.1
  · rw [hn 40 (by omega)]; exact h6
  · rw [hn 41 (by omega)]; exact h7
  · intro s hs
    obtain ⟨q1, q2, q3, q4⟩ := h8 s hs
    unfold kSh
    rw [hn (44 + 2 * s) (by omega)]
    exact ⟨q1, q2, q3, q4⟩
  · intro i hi; rw [hn 43 (by omega)]; exact h9 i hi
  · exact h10.cong (fun i q1 q2 => hn i (by omega))
  · intro i hi; rw [hn i (by omega)]; exact h11 i hi
/-- the tape changes -/
theorem KX.setT (h : KX g sg la σ) {s' : Nat → Nat → Int32} {n : Nat} {b : Nat → Int32} (hn : n ≤ 250) (he : ∀ k, k ≠ 40 → k ≠ 41 → s' k = sg k) (e1 : s' 40 1 = nI n) (e2 : s' 41 = b) : KX g s' la (yT σ n b) := by
  obtain ⟨h1, h2, ⟨h3, h4, h5⟩, ⟨h6, h7⟩, h8, h9, h10, h11⟩ := h
  have e7 : ct s' 7 = ct sg 7 := ct_cong (fun k q1 q2 => he k (by omega) (by omega))
  refine ⟨⟨h1.1, h1.2.1, hn, h1.2.2.2⟩, ?_, ⟨?_, ?_, ?_⟩, ⟨e1, e2⟩, ?_, ?_, ?_, ?_⟩
  · rw [ct_cong (fun k q1 q2 => he k (by omega) (by omega))]; exact h2
  · rw [he 0 (by omega) (by omega)]; exact h3
  · rw [e7]; exact h4
  · rw [e7]; exact h5
  · intro s hs
    obtain ⟨q1, q2, q3, q4⟩ := h8 s hs
    unfold kSh
    rw [he (44 + 2 * s) (by omega) (by omega)]
    exact ⟨q1, q2, q3, q4⟩
  · intro i hi; rw [he 43 (by omega) (by omega)]; exact h9 i hi
  · exact h10.cong (fun i q1 q2 => he i (by omega) (by omega))
  · intro i hi; rw [he i (by omega) (by omega)]; exact h11 i hi
/-- a shelf changes -/
theorem KX.setS (h : KX g sg la σ) {s' : Nat → Nat → Int32} {l' : Nat → Nat → Int64} {s : Nat} {f : SHF} (hs : s < 8) (hf : fW (cN (xN σ)) f) (he : ∀ k, k ≠ 44 + 2 * s → s' k = sg k) (hl : ∀ k, k ≠ 44 + 2 * s + 1 → l' k = la k) (e1 : kSh s' l' s f) : KX g s' l' (yS σ (va_up (xS σ) s f)) := by
  obtain ⟨h1, h2, ⟨h3, h4, h5⟩, ⟨h6, h7⟩, h8, h9, h10, h11⟩ := h
  have e7 : ct s' 7 = ct sg 7 := ct_cong (fun k q1 q2 => he k (by omega))
  refine ⟨⟨h1.1, h1.2.1, h1.2.2.1, ?_⟩, ?_, ⟨?_, ?_, ?_⟩, ⟨?_, ?_⟩, ?_, ?_, ?_, ?_⟩
  · intro i hi
    show fW _ (va_up (xS σ) s f i)
    by_cases e : i = s
    · subst e; rw [az_up_self]; exact hf
    · rw [az_up_ne e]; exact h1.2.2.2 i hi
  · rw [ct_cong (fun k q1 q2 => he k (by omega))]; exact h2
  · rw [he 0 (by omega)]; exact h3
  · rw [e7]; exact h4
  · rw [e7]; exact h5
  · rw [he 40 (by omega)]; exact h6
  · rw [he 41 (by omega)]; exact h7
  · intro i hi
    show kSh s' l' i (va_up (xS σ) s f i)
    by_cases e : i = s
    · subst e; rw [az_up_self]; exact e1
    · rw [az_up_ne e]
      obtain ⟨q1, q2, q3, q4⟩ := h8 i hi
      unfold kSh
      rw [he (44 + 2 * i) (by omega), hl (44 + 2 * i + 1) (by omega)]
      exact ⟨q1, q2, q3, q4⟩
  · intro i hi; rw [he 43 (by omega)]; exact h9 i hi
  · exact h10.cong (fun i q1 q2 => he i (by omega))
  · intro i hi; rw [he i (by omega), hl i (by omega)]; exact h11 i hi
theorem KX.f5 (h : KX g sg la σ) : sg 1 5 = cPp (xN σ) := by rw [← h.now]; rfl
theorem KX.f6 (h : KX g sg la σ) : sg 1 6 = cAir (xN σ) := by rw [← h.now]; rfl
theorem KX.f7 (h : KX g sg la σ) : sg 1 7 = cFall (xN σ) := by rw [← h.now]; rfl
theorem KX.f8 (h : KX g sg la σ) : sg 1 8 = cDay (xN σ) := by rw [← h.now]; rfl
theorem KX.f9 (h : KX g sg la σ) : sg 1 9 = cWin (xN σ) := by rw [← h.now]; rfl
theorem KX.f10 (h : KX g sg la σ) : sg 1 10 = cCoal (xN σ) := by rw [← h.now]; rfl
theorem KX.f11 (h : KX g sg la σ) : sg 1 11 = cSeed (xN σ) := by rw [← h.now]; rfl
theorem KX.e1 (h : KX g sg la σ) (i : Nat) : sg 2 i = cKd (xN σ) i := by rw [← h.now]; rfl
theorem KX.e2 (h : KX g sg la σ) (i : Nat) : sg 3 i = cAa (xN σ) i := by rw [← h.now]; rfl
theorem KX.e3 (h : KX g sg la σ) (i : Nat) : sg 4 i = cPr (xN σ) i := by rw [← h.now]; rfl
theorem KX.e4 (h : KX g sg la σ) (i : Nat) : sg 5 i = cBr (xN σ) i := by rw [← h.now]; rfl
theorem KX.e5 (h : KX g sg la σ) (i : Nat) : sg 6 i = cFe (xN σ) i := by rw [← h.now]; rfl
theorem KX.r (h : KX g sg la σ) {k : Nat} (hk : k < 5) : sg 43 k = xR σ k := h.2.2.2.2.2.1 k hk
theorem KX.rng (h : KX g sg la σ) : cRng (xN σ) := h.cw.1
theorem KX.ok (h : KX g sg la σ) : cOk (xN σ) := h.cw.1.1
theorem KX.ctl (h : KX g sg la σ) : cTl (xN σ) := h.cw.2.1
theorem KX.aw (h : KX g sg la σ) : cAway (xN σ) = -1 := h.cw.2.2.1
theorem KX.pp (h : KX g sg la σ) : sg 1 5 = nI (cN (xN σ)) := h.f5.trans h.ok.1
end KX
theorem qr_2 (σ : SGM) : qr σ (-2) = (-2, rfs σ 0) := rfl
theorem qr_3 (σ : SGM) : qr σ (-3) = (-3, rfs σ 1) := rfl
theorem qr_4 (σ : SGM) : qr σ (-4) = (-4, rfs σ 2) := rfl
theorem qr_5 (σ : SGM) : qr σ (-5) = (-5, rfs σ 3) := rfl
theorem qr_6 (σ : SGM) : qr σ (-6) = (-6, rfs σ 4) := rfl
