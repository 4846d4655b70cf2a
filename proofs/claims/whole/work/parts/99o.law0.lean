/-! the law: what holds between two calls -/
def mL_law : az_Md := (yL_law, cL_law, 4, ret)
theorem KX.mv {g : GGM} {sg sg1 : Nat → Nat → Int32} {la la1 : Nat → Nat → Int64} {σ τ : SGM} {kp tr : Option Nat} (hK : KX g sg la σ) (hR : RX (sg, la) sg1 la1 τ kp tr) : KX (sg1, la1) sg1 la1 σ := by
  obtain ⟨h1, h2, ⟨h3, h4, h5⟩, ⟨h6, h7⟩, h8, h9, ⟨t1, t2, t3, t4, t5, t6, t7⟩, -⟩ := hK
  have e : ∀ k, k < 60 → sg1 k = sg k := fun k hk => (hR.2.2.2.2.2.2 k hk).1
  have el : ∀ k, k < 60 → la1 k = la k := fun k hk => (hR.2.2.2.2.2.2 k hk).2
  have ec : ∀ o, o + 5 < 60 → ct sg1 o = ct sg o := fun o ho => ct_eq (fun i _ hi => e i (by omega))
  refine ⟨h1, (ec 1 (by omega)).trans h2, ⟨by rw [e 0 (by omega)]; exact h3, fun k hk => (ec 7 (by omega)).trans (h4 k hk), by rw [ec 7 (by omega)]; exact h5⟩, ⟨by rw [e 40 (by omega)]; exact h6, (e 41 (by omega)).trans h7⟩, fun s hs => ?_, fun k hk => by rw [e 43 (by omega)]; exact h9 k hk, ⟨by rw [ec 14 (by omega)]; exact t1, by rw [ec 21 (by omega)]; exact t2, by rw [ec 30 (by omega)]; exact t3, by rw [e 27 (by omega)]; exact t4, by rw [e 28 (by omega)]; exact t5, by rw [e 38 (by omega)]; exact t6, by rw [e 39 (by omega)]; exact t7⟩, fun k _ => ⟨rfl, rfl⟩⟩
  have hh := h8 s hs
  unfold kSh at hh ⊢
  rw [e (44 + 2 * s) (by omega), el (44 + 2 * s + 1) (by omega)]
  exact hh
theorem RX.mv {g : GGM} {sg sg1 : Nat → Nat → Int32} {la la1 : Nat → Nat → Int64} {σ τ : SGM} {kp tr : Option Nat} (hR : RX g sg la σ kp tr) (hK : KX (sg, la) sg1 la1 τ) : RX (sg1, la1) sg1 la1 σ kp tr := by
  obtain ⟨h1, ⟨h2, h3⟩, h4, h5, h6, h7, -⟩ := hR
  have e : ∀ k, 60 ≤ k → sg1 k = sg k := fun k hk => (hK.2.2.2.2.2.2.2 k hk).1
  have el : ∀ k, 60 ≤ k → la1 k = la k := fun k hk => (hK.2.2.2.2.2.2.2 k hk).2
  have em : ∀ o c, 60 ≤ o → mput sg o c = sg → mput sg1 o c = sg1 := by
    intro o c ho h
    funext k
    rcases Nat.lt_or_ge k 60 with q | q
    · exact mput_ne (by omega) (by omega)
    · have hk : mput sg1 o c k = mput sg o c k := by unfold mput; rw [e o ho, e k q]
      exact hk.trans ((congrFun h k).trans (e k q).symm)
  refine ⟨em 60 _ (by omega) h1, ⟨by rw [e 60 (by omega)]; exact h2, (e 75 (by omega)).trans h3⟩, fun s hs => ?_, fun k hk => by rw [e 76 (by omega)]; exact h5 k hk, ?_, ?_, fun k _ => ⟨rfl, rfl⟩⟩
  · have hh := h4 s hs
    unfold rSh at hh ⊢
    rw [e 61 (by omega), e 62 (by omega), e 63 (by omega), e 74 (by omega), el (65 + s) (by omega)]
    exact hh
  · rcases h6 with h | ⟨k, c, a, b, d, f⟩
    · exact Or.inl h
    · exact Or.inr ⟨k, c, a, b, d, em k c (by omega) f⟩
  · rcases h7 with h | ⟨k, c, a, b, d, f, z⟩
    · exact Or.inl h
    · exact Or.inr ⟨k, c, a, b, d, em k c (by omega) f, z⟩
theorem RX.self {g : GGM} {sg : Nat → Nat → Int32} {la : Nat → Nat → Int64} {σ : SGM} {kp tr : Option Nat} (hR : RX g sg la σ kp tr) : RX (sg, la) sg la σ kp tr := by
  obtain ⟨h1, h2, h4, h5, h6, h7, -⟩ := hR
  exact ⟨h1, h2, h4, h5, h6, h7, fun k _ => ⟨rfl, rfl⟩⟩
def bN : Option Nat → Nat
  | none => 1
  | some _ => 0
def LI (sh : List az_Sh) (sg : Nat → Nat → Int32) (la : Nat → Nat → Int64) (σ : SGM) (kp tr : Option Nat) (bc bs : Nat) : Prop := az_at sh 0 lyX ∧ RS sh kp tr ∧ KX (sg, la) sg la σ ∧ RX (sg, la) sg la σ kp tr ∧ 33 * (bN kp + bN tr) ≤ bc ∧ 1069 * (bN kp + bN tr) ≤ bs
theorem LI_go {sh : List az_Sh} {sg1 sg2 : Nat → Nat → Int32} {la1 la2 : Nat → Nat → Int64} {g : GGM} {τ : SGM} {kp tr : Option Nat} {bc bs : Nat} (hX : az_at sh 0 lyX) (hS : RS sh kp tr) (hK : KX g sg1 la1 τ) (hR : RX (sg1, la1) sg2 la2 τ kp tr) (hb : 33 * (bN kp + bN tr) ≤ bc ∧ 1069 * (bN kp + bN tr) ≤ bs) : LI sh sg2 la2 τ kp tr bc bs := ⟨hX, hS, hK.mv hR, hR.self, hb⟩
theorem lyX_60 : lyX.length = 60 := rfl
theorem lyX_keep {sh sh' : List az_Sh} (h : az_at sh 0 lyX) (he : ∀ k, k < 60 → sh'[k]? = sh[k]?) : az_at sh' 0 lyX := by
  intro k q hk
  have hl : k < lyX.length := (List.getElem?_eq_some_iff.mp hk).1
  rw [lyX_60] at hl
  rw [he (0 + k) (by omega)]
  exact h k q hk
theorem LI_gn {sh sh' : List az_Sh} {sg1 sg2 : Nat → Nat → Int32} {la1 la2 : Nat → Nat → Int64} {g : GGM} {τ : SGM} {kp tr kp' tr' : Option Nat} {bc bs : Nat} (hX : az_at sh 0 lyX) (hS : RS sh' kp' tr') (he : ∀ k, k < 60 → sh'[k]? = sh[k]?) (hK : KX g sg1 la1 τ) (hR : RX (sg1, la1) sg2 la2 τ kp' tr') (hb : 33 * (bN kp + bN tr) ≤ bc ∧ 1069 * (bN kp + bN tr) ≤ bs) (h1 : (kp = none ∧ (∃ n, kp' = some n) ∧ tr' = tr) ∨ (tr = none ∧ (∃ n, tr' = some n) ∧ kp' = kp)) : LI sh' sg2 la2 τ kp' tr' (bc - 33) (bs - 1069) ∧ 33 ≤ bc ∧ 1069 ≤ bs := by
  rcases h1 with ⟨rfl, ⟨n, rfl⟩, rfl⟩ | ⟨rfl, ⟨n, rfl⟩, rfl⟩
  · have e1 : bN none = 1 := rfl
    have e2 : bN (some n) = 0 := rfl
    rw [e1] at hb
    exact ⟨⟨lyX_keep hX he, hS, hK.mv hR, hR.self, by rw [e2]; omega, by rw [e2]; omega⟩, by omega, by omega⟩
  · have e1 : bN none = 1 := rfl
    have e2 : bN (some n) = 0 := rfl
    rw [e1] at hb
    exact ⟨⟨lyX_keep hX he, hS, hK.mv hR, hR.self, by rw [e2]; omega, by rw [e2]; omega⟩, by omega, by omega⟩
theorem lg_cmp_self (x : Int64) : lg_cmp x x = 0 := lcmp_0.mpr rfl
theorem and63 (v : Int32) : ∃ k, k < 64 ∧ v &&& 63 = nI k := by
  refine ⟨v.toBitVec.toNat % 64, Nat.mod_lt _ (by decide), ?_⟩
  refine Int32.toBitVec_inj.mp ?_
  have h : (v &&& 63).toBitVec = v.toBitVec &&& 63#32 := rfl
  rw [h]
  refine BitVec.eq_of_toNat_eq ?_
  rw [BitVec.toNat_and]
  have h2 : v.toBitVec.toNat &&& (63#32).toNat = v.toBitVec.toNat % 64 := Nat.and_two_pow_sub_one_eq_mod _ 6
  rw [h2]
  show _ = (BitVec.ofNat 32 (v.toBitVec.toNat % 64)).toNat
  rw [BitVec.toNat_ofNat]
  exact (Nat.mod_eq_of_lt (by have := Nat.mod_lt v.toBitVec.toNat (show 0 < 64 by decide); omega)).symm
theorem gt6 {L i : Nat} (hL : L ≤ 3072) (hi : i ≤ 3072) : nI L - 6 < nI i ↔ L < i + 6 := by
  rw [Int32.lt_iff_toInt_lt, Int32.toInt_sub, nI_toInt (by omega), nI_toInt (by omega), show (6 : Int32).toInt = 6 by decide, Int.bmod_eq_of_le (by omega) (by omega)]
  omega
