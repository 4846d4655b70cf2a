/-! the country's methods over the class's cells -/
theorem kx_hasOne (l : Launch) (G : az_Gh) (d : Nat) (sh : List az_Sh) (sg : Nat → Nat → Int32) (la : Nat → Nat → Int64) (g : GGM) (σ : SGM) (i : Int32) (hX : az_at sh 0 lyX) (hK : KX g sg la σ)  : FM l G d mX2_hasOne [.ref 1, .int i] (sh, sg, la) (some (.int (b2i (0 ≤ i ∧ i < cPp (xN σ))))) (sh, sg, la) := by
  have q := z_X2_hasOne l G d sh sg la 1 (xN σ) i (lyX_now hX)
  rw [hK.z1] at q
  exact q
theorem kx_isFull (l : Launch) (G : az_Gh) (d : Nat) (sh : List az_Sh) (sg : Nat → Nat → Int32) (la : Nat → Nat → Int64) (g : GGM) (σ : SGM)  (hX : az_at sh 0 lyX) (hK : KX g sg la σ)  : FM l G d mX2_isFull [.ref 1] (sh, sg, la) (some (.int (b2i (8 ≤ cPp (xN σ))))) (sh, sg, la) := by
  have q := z_X2_isFull l G d sh sg la 1 (xN σ) (lyX_now hX)
  rw [hK.z1] at q
  exact q
theorem kx_coldAs (l : Launch) (G : az_Gh) (d : Nat) (sh : List az_Sh) (sg : Nat → Nat → Int32) (la : Nat → Nat → Int64) (g : GGM) (σ : SGM) (p : Nat) (t : Int32) (hX : az_at sh 0 lyX) (hK : KX g sg la σ) (hp : p < cN (xN σ)) : FM l G (d + 1) mX2_coldAs [.ref 1, .int t, .int (nI p)] (sh, sg, la) (some (.int (zcT t (xN σ) p))) (sh, sg, la) := by
  have q := z_X2_coldAs l G d sh sg la 1 (xN σ) p t (lyX_now hX) hK.ok hp
  rw [hK.z1] at q
  exact q
theorem kx_limitBy (l : Launch) (G : az_Gh) (d : Nat) (sh : List az_Sh) (sg : Nat → Nat → Int32) (la : Nat → Nat → Int64) (g : GGM) (σ : SGM) (p : Nat) (t : Int32) (hX : az_at sh 0 lyX) (hK : KX g sg la σ) (hp : p < cN (xN σ)) : FM l G (d + 1) mX2_limitBy [.ref 1, .int t, .int (nI p)] (sh, sg, la) (some (.int (zl (xN σ) t p))) (sh, sg, la) := by
  have q := z_X2_limitBy l G d sh sg la 1 (xN σ) p t (lyX_now hX) hK.ok hp
  rw [hK.z1] at q
  exact q
theorem kx_isHeard (l : Launch) (G : az_Gh) (d : Nat) (sh : List az_Sh) (sg : Nat → Nat → Int32) (la : Nat → Nat → Int64) (g : GGM) (σ : SGM) (p : Nat) (hX : az_at sh 0 lyX) (hK : KX g sg la σ) (hp : p < cN (xN σ)) : FM l G (d + 2) mX2_isHeard [.ref 1, .int (nI p)] (sh, sg, la) (some (.int (b2i (zsp (xN σ) p = true)))) (sh, sg, la) := by
  have q := z_X2_isHeard l G d sh sg la 1 (xN σ) p (lyX_now hX) hK.ok hp
  rw [hK.z1] at q
  exact q
theorem kx_coldestOne (l : Launch) (G : az_Gh) (d : Nat) (sh : List az_Sh) (sg : Nat → Nat → Int32) (la : Nat → Nat → Int64) (g : GGM) (σ : SGM)  (hX : az_at sh 0 lyX) (hK : KX g sg la σ)  : FM l G (d + 2) mX2_coldestOne [.ref 1] (sh, sg, la) (some (.int (oI (zbest (xN σ))))) (sh, sg, la) := by
  have q := z_X2_coldestOne l G d sh sg la 1 (xN σ) (lyX_now hX) hK.ok (cRng_pos hK.rng)
  rw [hK.z1] at q
  exact q
theorem kx_standsSo (l : Launch) (G : az_Gh) (d : Nat) (sh : List az_Sh) (sg : Nat → Nat → Int32) (la : Nat → Nat → Int64) (g : GGM) (σ : SGM)  (hX : az_at sh 0 lyX) (hK : KX g sg la σ)  : FM l G (d + 3) mX2_standsSo [.ref 1] (sh, sg, la) (some (.int (b2i (zso (xN σ) = true)))) (sh, sg, la) := by
  have q := z_X2_standsSo l G d sh sg la 1 (xN σ) (lyX_now hX) hK.rng
  rw [hK.z1] at q
  exact q
theorem kx_isColder (l : Launch) (G : az_Gh) (d : Nat) (sh : List az_Sh) (sg : Nat → Nat → Int32) (la : Nat → Nat → Int64) (g : GGM) (σ : SGM) (p q : Nat) (hX : az_at sh 0 lyX) (hK : KX g sg la σ) (hp : p < cN (xN σ)) (hq : q < cN (xN σ)) : FM l G (d + 2) mX2_isColder [.ref 1, .int (nI p), .int (nI q)] (sh, sg, la) (some (.int (b2i (zc (xN σ) q < zc (xN σ) p)))) (sh, sg, la) := by
  have q := z_X2_isColder l G d sh sg la 1 (xN σ) p q (lyX_now hX) hK.ok hp hq
  rw [hK.z1] at q
  exact q
theorem kx_ranked (l : Launch) (G : az_Gh) (d : Nat) (sh : List az_Sh) (sg : Nat → Nat → Int32) (la : Nat → Nat → Int64) (g : GGM) (σ : SGM) (i : Int32) (hX : az_at sh 0 lyX) (hK : KX g sg la σ)  : FM l G (d + 3) mX2_ranked [.ref 1, .int i] (sh, sg, la) (some (.int (oI (zrank (xN σ) i)))) (sh, sg, la) := by
  have q := z_X2_ranked l G d sh sg la 1 (xN σ) i (lyX_now hX) hK.ok
  rw [hK.z1] at q
  exact q
theorem kx_allFed (l : Launch) (G : az_Gh) (d : Nat) (sh : List az_Sh) (sg : Nat → Nat → Int32) (la : Nat → Nat → Int64) (g : GGM) (σ : SGM)  (hX : az_at sh 0 lyX) (hK : KX g sg la σ)  : FM l G d mX2_allFed [.ref 1] (sh, sg, la) (some (.int (l_sum (cFe (xN σ)) (cN (xN σ))))) (sh, sg, la) := by
  have q := z_X2_allFed l G d sh sg la 1 (xN σ) (lyX_now hX) hK.ok
  rw [hK.z1] at q
  exact q
theorem kx_countOf (l : Launch) (G : az_Gh) (d : Nat) (sh : List az_Sh) (sg : Nat → Nat → Int32) (la : Nat → Nat → Int64) (g : GGM) (σ : SGM) (k : Int32) (hX : az_at sh 0 lyX) (hK : KX g sg la σ)  : FM l G (d + 1) mX2_countOf [.ref 1, .int k] (sh, sg, la) (some (.int (l_sum (fun p => b2i (cKd (xN σ) p = k)) (cN (xN σ))))) (sh, sg, la) := by
  have q := z_X2_countOf l G d sh sg la 1 (xN σ) k (lyX_now hX) hK.ok
  rw [hK.z1] at q
  exact q
