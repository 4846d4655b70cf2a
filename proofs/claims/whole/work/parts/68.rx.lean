/-! the reference's cells hold a state -/
def rSh (sg : Nat → Nat → Int32) (la : Nat → Nat → Int64) (s : Nat) (f : SHF) : Prop := sg 61 s = (if fSh f = -1 then (if fSo f = -1 then 0 else 1) else 2) ∧ (¬ fSo f = -1 → sg 62 s = fSo f ∧ sg 63 s = nI (fSz f)) ∧ (¬ fSh f = -1 → sg 74 s = fSh f) ∧ la (65 + s) = fEl f
def rKp (sg : Nat → Nat → Int32) (σ : SGM) (kp : Option Nat) : Prop := (xK σ = none ∧ kp = none) ∨ ∃ k c, xK σ = some c ∧ kp = some k ∧ (k = 93 ∨ k = 126) ∧ mput sg k c = sg
def rTr (sg : Nat → Nat → Int32) (kp tr : Option Nat) : Prop := tr = none ∨ ∃ k c, tr = some k ∧ (k = 93 ∨ k = 126) ∧ ¬ kp = some k ∧ mput sg k c = sg ∧ cTl c ∧ cAway c = -1
def RX (g : GGM) (sg : Nat → Nat → Int32) (la : Nat → Nat → Int64) (σ : SGM) (kp tr : Option Nat) : Prop :=
  mput sg 60 (xN σ) = sg ∧ (sg 60 7 = nI (xTn σ) ∧ sg 75 = xTb σ) ∧ (∀ s, s < 8 → rSh sg la s (xS σ s)) ∧ (∀ k, k < 5 → sg 76 (k + 2) = xR σ k) ∧ rKp sg σ kp ∧ rTr sg kp tr ∧ ∀ k, k < 60 → sg k = g.1 k ∧ la k = g.2 k
def RQ (sh : List az_Sh) (g : GGM) (kp tr : Option Nat) (v : Value) (σ : SGM) : Option Value → az_St → Prop := fun r S1 => r = some v ∧ ∃ sg la, S1 = (sh, sg, la) ∧ RX g sg la σ kp tr
theorem RQ_i {sh : List az_Sh} {g : GGM} {kp tr : Option Nat} {q : Int32 × SGM} {v : Int32} {σ : SGM} {sg : Nat → Nat → Int32} {la : Nat → Nat → Int64} (h : q = (v, σ)) (hK : RX g sg la σ kp tr) : RQ sh g kp tr (.int q.1) q.2 (some (.int v)) (sh, sg, la) := by
  subst h; exact ⟨rfl, sg, la, rfl, hK⟩
theorem RQ_0 {sh : List az_Sh} {g : GGM} {kp tr : Option Nat} {q v : Int32} {σ : SGM} {sg : Nat → Nat → Int32} {la : Nat → Nat → Int64} (h : q = v) (hK : RX g sg la σ kp tr) : RQ sh g kp tr (.int q) σ (some (.int v)) (sh, sg, la) := by
  subst h; exact ⟨rfl, sg, la, rfl, hK⟩
theorem RQ_l {sh : List az_Sh} {g : GGM} {kp tr : Option Nat} {q v : Int64} {σ : SGM} {sg : Nat → Nat → Int32} {la : Nat → Nat → Int64} (h : q = v) (hK : RX g sg la σ kp tr) : RQ sh g kp tr (.long q) σ (some (.long v)) (sh, sg, la) := by
  subst h; exact ⟨rfl, sg, la, rfl, hK⟩
/-- only scratch changes -/
def mSj (j : Nat) : Bool := (decide (23 ≤ j) && decide (j ≤ 27)) || (decide (29 ≤ j) && decide (j ≠ 30))
def sC (s u : Nat → Nat → Int32) : Prop := (∀ k, k ≠ 60 → (k < 82 ∨ 92 < k) → u k = s k) ∧ ∀ j, mSj j = false → u 60 j = s 60 j
theorem sC.rf (s : Nat → Nat → Int32) : sC s s := ⟨fun _ _ _ => rfl, fun _ _ => rfl⟩
theorem sC.tr {s u v : Nat → Nat → Int32} (h : sC s u) (h2 : sC u v) : sC s v := ⟨fun k a b => (h2.1 k a b).trans (h.1 k a b), fun j a => (h2.2 j a).trans (h.2 j a)⟩
theorem sC.w {s u : Nat → Nat → Int32} (h : sC s u) {j : Nat} (hj : mSj j = true) (x : Int32) : sC s (az_w u 60 j x) := by
  refine ⟨fun k a b => by rw [az_w_ne a]; exact h.1 k a b, fun i a => ?_⟩
  rw [az_w_nj (fun e => by subst e; rw [hj] at a; cases a)]
  exact h.2 i a
theorem sC.up {s u : Nat → Nat → Int32} (h : sC s u) {k : Nat} (hk : 82 ≤ k ∧ k ≤ 92) (f : Nat → Int32) : sC s (va_up u k f) := by
  refine ⟨fun i a b => by rw [az_up_ne (by omega)]; exact h.1 i a b, fun j a => ?_⟩
  rw [az_up_ne (by omega)]; exact h.2 j a
theorem sC.wk {s u : Nat → Nat → Int32} (h : sC s u) {k : Nat} (hk : 82 ≤ k ∧ k ≤ 92) (i : Nat) (x : Int32) : sC s (az_w u k i x) := h.up hk _
theorem sC.kp {s u : Nat → Nat → Int32} (h : sC s u) (c : CT) : sC s (mkp u c) := ((h.w (j := 31) rfl _).w (j := 32) rfl _).up (by omega) _
theorem mput_z {u : Nat → Nat → Int32} {k : Nat} {c : CT} (h : mput u k c = u) : u k = mrow c (u k) ∧ u (k + 17) = cKd c ∧ u (k + 18) = cAa c ∧ u (k + 19) = cPr c ∧ u (k + 20) = cBr c ∧ u (k + 21) = cFe c := by
  refine ⟨?_, ?_, ?_, ?_, ?_, ?_⟩
  · rw [← mput_o, h]
  · rw [← ma_17 u k c, h]
  · rw [← ma_18 u k c, h]
  · rw [← ma_19 u k c, h]
  · rw [← ma_20 u k c, h]
  · rw [← ma_21 u k c, h]
/-- an object's cells, as they were -/
theorem mput_keep {s u : Nat → Nat → Int32} {k : Nat} {c : CT} (h : mput s k c = s) (he : ∀ i, k ≤ i → i ≤ k + 21 → u i = s i) : mput u k c = u := by
  obtain ⟨h0, h1, h2, h3, h4, h5⟩ := mput_z h
  refine (mput_ext (s := u) (t := u) (fun j => ?_) ?_ ?_ ?_ ?_ ?_ (fun _ _ _ => rfl)).symm
  · rw [he k (by omega) (by omega)]; exact congrFun h0 j
  · rw [he _ (by omega) (by omega)]; exact h1
  · rw [he _ (by omega) (by omega)]; exact h2
  · rw [he _ (by omega) (by omega)]; exact h3
  · rw [he _ (by omega) (by omega)]; exact h4
  · rw [he _ (by omega) (by omega)]; exact h5
theorem mput_keep' {s u : Nat → Nat → Int32} {k : Nat} {c : CT} (h : mput s k c = s) (he : ∀ i, i = k ∨ (k + 17 ≤ i ∧ i ≤ k + 21) → u i = s i) : mput u k c = u := by
  obtain ⟨h0, h1, h2, h3, h4, h5⟩ := mput_z h
  refine (mput_ext (s := u) (t := u) (fun j => ?_) ?_ ?_ ?_ ?_ ?_ (fun _ _ _ => rfl)).symm
  · rw [he k (by omega)]; exact congrFun h0 j
  · rw [he _ (by omega)]; exact h1
  · rw [he _ (by omega)]; exact h2
  · rw [he _ (by omega)]; exact h3
  · rw [he _ (by omega)]; exact h4
  · rw [he _ (by omega)]; exact h5
theorem rKp.keep {s u : Nat → Nat → Int32} {σ : SGM} {kp : Option Nat} (h : rKp s σ kp) (he : ∀ i, 93 ≤ i → u i = s i) : rKp u σ kp := by
  rcases h with h | ⟨k, c, h1, h2, h3, h4⟩
  · exact Or.inl h
  · exact Or.inr ⟨k, c, h1, h2, h3, mput_keep h4 (fun i q1 q2 => he i (by omega))⟩
theorem rTr.keep {s u : Nat → Nat → Int32} {kp tr : Option Nat} (h : rTr s kp tr) (he : ∀ i, 93 ≤ i → u i = s i) : rTr u kp tr := by
  rcases h with h | ⟨k, c, h1, h2, h3, h4, h5⟩
  · exact Or.inl h
  · exact Or.inr ⟨k, c, h1, h2, h3, mput_keep h4 (fun i q1 q2 => he i (by omega)), h5⟩
section RX
variable {g : GGM} {sg : Nat → Nat → Int32} {la : Nat → Nat → Int64} {σ : SGM} {kp tr : Option Nat}
theorem RX.z (h : RX g sg la σ kp tr) : mput sg 60 (xN σ) = sg := h.1
theorem RX.fin (h : RX g sg la σ kp tr) {u : Nat → Nat → Int32} (hs : sC sg u) (c : CT) : RX g (mput u 60 c) la (yN σ c) kp tr := by
  obtain ⟨h1, ⟨h2, h3⟩, h4, h5, h6, h7, h8⟩ := h
  have e : ∀ k, k ≠ 60 → k < 77 ∨ 92 < k → mput u 60 c k = sg k := fun k a b => (mput_ne a (by omega)).trans (hs.1 k a (by omega))
  refine ⟨mput_mput _ _ _ _, ⟨?_, ?_⟩, ?_, ?_, ?_, ?_, ?_⟩
  · rw [mput_f rfl, hs.2 7 rfl]; exact h2
  · rw [e 75 (by omega) (by omega)]; exact h3
  · intro s hs
    obtain ⟨q1, q2, q3, q4⟩ := h4 s hs
    unfold rSh
    rw [e 61 (by omega) (by omega), e 62 (by omega) (by omega), e 63 (by omega) (by omega), e 74 (by omega) (by omega)]
    exact ⟨q1, q2, q3, q4⟩
  · intro k hk; rw [e 76 (by omega) (by omega)]; exact h5 k hk
  · exact rKp.keep (σ := yN σ c) h6 (fun i hi => e i (by omega) (by omega))
  · exact h7.keep (fun i hi => e i (by omega) (by omega))
  · intro k hk; rw [e k (by omega) (by omega)]; exact h8 k hk
theorem RX.fin0 (h : RX g sg la σ kp tr) {u : Nat → Nat → Int32} (hs : sC sg u) : RX g (mput u 60 (xN σ)) la σ kp tr := h.fin hs (xN σ)
theorem RX.ref (h : RX g sg la σ kp tr) {k : Nat} (hk : k < 5) : RX g (az_w sg 76 (k + 2) (sg 76 (k + 2) + 1)) la (rfs σ k) kp tr := by
  obtain ⟨h1, ⟨h2, h3⟩, h4, h5, h6, h7, h8⟩ := h
  have e : ∀ i, ¬ i = 76 → az_w sg 76 (k + 2) (sg 76 (k + 2) + 1) i = sg i := fun i hi => az_w_ne hi
  refine ⟨?_, ⟨?_, ?_⟩, ?_, ?_, ?_, ?_, ?_⟩
  · rw [← mput_wk (by decide) (by decide)]
    show az_w (mput sg 60 (xN σ)) _ _ _ = _
    rw [h1]
  · rw [e 60 (by omega)]; exact h2
  · rw [e 75 (by omega)]; exact h3
  · intro s hs
    obtain ⟨q1, q2, q3, q4⟩ := h4 s hs
    unfold rSh
    rw [e 61 (by omega), e 62 (by omega), e 63 (by omega), e 74 (by omega)]
    exact ⟨q1, q2, q3, q4⟩
  · intro i hi
    show _ = va_up (xR σ) k (xR σ k + 1) i
    by_cases q : i = k
    · subst q; rw [az_w_at, az_up_self, h5 i hi]
    · rw [az_w_nj (by omega), az_up_ne q]; exact h5 i hi
  · exact rKp.keep (σ := rfs σ k) h6 (fun i hi => e i (by omega))
  · exact h7.keep (fun i hi => e i (by omega))
  · intro i hi; rw [e i (by omega)]; exact h8 i hi
theorem RX.sh (h : RX g sg la σ kp tr) {s : Nat} (hs : s < 8) : rSh sg la s (xS σ s) := h.2.2.1 s hs
theorem RX.setT (h : RX g sg la σ kp tr) {s' : Nat → Nat → Int32} {n : Nat} {b : Nat → Int32} (he : ∀ k, k ≠ 60 → k ≠ 75 → s' k = sg k) (he2 : ∀ j, j ≠ 7 → s' 60 j = sg 60 j) (e1 : s' 60 7 = nI n) (e2 : s' 75 = b) : RX g s' la (yT σ n b) kp tr := by
  obtain ⟨h1, ⟨h2, h3⟩, h4, h5, h6, h7, h8⟩ := h
  refine ⟨?_, ⟨e1, e2⟩, ?_, ?_, ?_, ?_, ?_⟩
  · obtain ⟨z0, z1, z2, z3, z4, z5⟩ := mput_z h1
    refine (mput_ext (s := s') (t := s') (fun j => ?_) ?_ ?_ ?_ ?_ ?_ (fun _ _ _ => rfl)).symm
    · by_cases q : j = 7
      · subst q; exact (mrow_out rfl).symm
      · rw [he2 j q]
        have := congrFun z0 j
        rw [this]
        by_cases hf : mfj j = false
        · rw [mrow_out hf, mrow_out hf, he2 j q]
        · rcases mfj_or hf with rfl | rfl | rfl | rfl | rfl | rfl | rfl | rfl <;> rfl
    · rw [he _ (by decide) (by decide)]; exact z1
    · rw [he _ (by decide) (by decide)]; exact z2
    · rw [he _ (by decide) (by decide)]; exact z3
    · rw [he _ (by decide) (by decide)]; exact z4
    · rw [he _ (by decide) (by decide)]; exact z5
  · intro s hs
    obtain ⟨q1, q2, q3, q4⟩ := h4 s hs
    unfold rSh
    rw [he 61 (by omega) (by omega), he 62 (by omega) (by omega), he 63 (by omega) (by omega), he 74 (by omega) (by omega)]
    exact ⟨q1, q2, q3, q4⟩
  · intro k hk; rw [he 76 (by omega) (by omega)]; exact h5 k hk
  · exact rKp.keep (σ := yT σ n b) h6 (fun i hi => he i (by omega) (by omega))
  · exact h7.keep (fun i hi => he i (by omega) (by omega))
  · intro k hk; rw [he k (by omega) (by omega)]; exact h8 k hk
/-- a shelf changes -/
theorem RX.setS (h : RX g sg la σ kp tr) {s' : Nat → Nat → Int32} {l' : Nat → Nat → Int64} {s : Nat} {f : SHF} (he : ∀ k, k ≠ 61 → k ≠ 62 → k ≠ 63 → k ≠ 74 → s' k = sg k) (hj : ∀ k j, j ≠ s → (k = 61 ∨ k = 62 ∨ k = 63 ∨ k = 74) → s' k j = sg k j) (hl : ∀ k, k ≠ 65 + s → k ≠ 73 → l' k = la k) (hs : s < 8) (e1 : rSh s' l' s f) : RX g s' l' (yS σ (va_up (xS σ) s f)) kp tr := by
  obtain ⟨h1, ⟨h2, h3⟩, h4, h5, h6, h7, h8⟩ := h
  refine ⟨?_, ⟨?_, ?_⟩, ?_, ?_, ?_, ?_, ?_⟩
  · exact mput_keep' h1 (fun i q => he i (by omega) (by omega) (by omega) (by omega))
  · rw [he 60 (by omega) (by omega) (by omega) (by omega)]; exact h2
  · rw [he 75 (by omega) (by omega) (by omega) (by omega)]; exact h3
  · intro i hi
    show rSh s' l' i (va_up (xS σ) s f i)
    by_cases e : i = s
    · subst e; rw [az_up_self]; exact e1
    · rw [az_up_ne e]
      obtain ⟨q1, q2, q3, q4⟩ := h4 i hi
      unfold rSh
      rw [hj 61 i e (by omega), hj 62 i e (by omega), hj 63 i e (by omega), hj 74 i e (by omega), hl (65 + i) (by omega) (by omega)]
      exact ⟨q1, q2, q3, q4⟩
  · intro k hk; rw [he 76 (by omega) (by omega) (by omega) (by omega)]; exact h5 k hk
  · exact rKp.keep (σ := yS σ (va_up (xS σ) s f)) h6 (fun i hi => he i (by omega) (by omega) (by omega) (by omega))
  · exact h7.keep (fun i hi => he i (by omega) (by omega) (by omega) (by omega))
  · intro i hi; rw [he i (by omega) (by omega) (by omega) (by omega), hl i (by omega) (by omega)]; exact h8 i hi
end RX
