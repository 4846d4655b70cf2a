def s00 : SGM := (c00, none, (0, fun _ => 0), (fun _ => (-1, 0, -1, fun _ => 0)), fun _ => 0)
theorem c00_W : cW c00 := by
  exact ⟨⟨⟨rfl, by decide⟩, ⟨by decide, by decide⟩, ⟨by decide, by decide⟩, fun p hp => absurd hp (Nat.not_lt_zero _)⟩, c00_tl, rfl, rfl, ⟨by decide, by decide⟩⟩
theorem WF_00 : WF s00 := ⟨c00_W, fun k h => (by cases h), Nat.zero_le _, fun s _ => ⟨Or.inl rfl, Nat.zero_le _, fun q => absurd rfl q, fun _ => rfl, Or.inl rfl⟩⟩
section S00
variable (sg : Nat → Nat → Int32)
set_option maxRecDepth 100000
theorem sgX_c1 : ct (sgX sg 0) 1 = c00 := rfl
theorem sgX_c7 : ct (sgX sg 0) 7 = c00 := rfl
theorem sgX_c14 : ct (sgX sg 0) 14 = c00 := rfl
theorem sgX_c21 : ct (sgX sg 0) 21 = c00 := rfl
theorem sgX_c30 : ct (sgX sg 0) 30 = c00 := rfl
theorem sgX_09 : sgX sg 0 0 9 = 0 := rfl
theorem sgX_401 : sgX sg 0 40 1 = 0 := rfl
theorem sgX_z27 : sgX sg 0 27 = fun _ => 0 := rfl
theorem sgX_z28 : sgX sg 0 28 = fun _ => 0 := rfl
theorem sgX_z38 : sgX sg 0 38 = fun _ => 0 := rfl
theorem sgX_z39 : sgX sg 0 39 = fun _ => 0 := rfl
theorem sgX_z41 : sgX sg 0 41 = fun _ => 0 := rfl
theorem sgX_z43 : sgX sg 0 43 = fun _ => 0 := rfl
theorem sgX_s : ∀ s, s < 8 → sgX sg 0 (44 + 2 * s) 1 = -1 ∧ sgX sg 0 (44 + 2 * s) 2 = 0 ∧ sgX sg 0 (44 + 2 * s) 3 = -1 := by
  intro s hs
  rcases (by omega : s = 0 ∨ s = 1 ∨ s = 2 ∨ s = 3 ∨ s = 4 ∨ s = 5 ∨ s = 6 ∨ s = 7) with rfl | rfl | rfl | rfl | rfl | rfl | rfl | rfl
  · exact ⟨rfl, rfl, rfl⟩
  · exact ⟨rfl, rfl, rfl⟩
  · exact ⟨rfl, rfl, rfl⟩
  · exact ⟨rfl, rfl, rfl⟩
  · exact ⟨rfl, rfl, rfl⟩
  · exact ⟨rfl, rfl, rfl⟩
  · exact ⟨rfl, rfl, rfl⟩
  · exact ⟨rfl, rfl, rfl⟩
end S00
theorem ct_eq {s u : Nat → Nat → Int32} {o : Nat} (h : ∀ i, o ≤ i → i ≤ o + 5 → u i = s i) : ct u o = ct s o := by
  unfold ct
  rw [h o (by omega) (by omega), h (o + 1) (by omega) (by omega), h (o + 2) (by omega) (by omega), h (o + 3) (by omega) (by omega), h (o + 4) (by omega) (by omega), h (o + 5) (by omega) (by omega)]
theorem KX_00 (sg u : Nat → Nat → Int32) (lu : Nat → Nat → Int64) (g : GGM) (hu : ∀ i, i < 60 → u i = sgX sg 0 i) (hl : ∀ i, i < 60 → lu i = fun _ => 0) (hg : ∀ k, 60 ≤ k → u k = g.1 k ∧ lu k = g.2 k) : KX g u lu s00 := by
  have e1 : ct u 1 = c00 := (ct_eq (fun i a b => hu i (by omega))).trans (sgX_c1 sg)
  have e7 : ct u 7 = c00 := (ct_eq (fun i a b => hu i (by omega))).trans (sgX_c7 sg)
  have e14 : ct u 14 = c00 := (ct_eq (fun i a b => hu i (by omega))).trans (sgX_c14 sg)
  have e21 : ct u 21 = c00 := (ct_eq (fun i a b => hu i (by omega))).trans (sgX_c21 sg)
  have e30 : ct u 30 = c00 := (ct_eq (fun i a b => hu i (by omega))).trans (sgX_c30 sg)
  refine ⟨WF_00, e1, ⟨?_, fun k h => (by cases h), ?_⟩, ⟨?_, ?_⟩, fun s hs => ?_, fun k hk => ?_, ⟨?_, ?_, ?_, ?_, ?_, ?_, ?_⟩, hg⟩
  · rw [hu 0 (by decide)]; exact sgX_09 sg
  · rw [e7]; exact c00_tl
  · rw [hu 40 (by decide)]; exact sgX_401 sg
  · rw [hu 41 (by decide)]; exact sgX_z41 sg
  · obtain ⟨q1, q2, q3⟩ := sgX_s sg s hs
    unfold kSh
    rw [hu (44 + 2 * s) (by omega), hl (44 + 2 * s + 1) (by omega)]
    exact ⟨q1, q2, q3, rfl⟩
  · rw [hu 43 (by decide), sgX_z43]; rfl
  · rw [e14]; exact c00_tl
  · rw [e21]; exact c00_tl
  · rw [e30]; exact c00_tl
  · intro j _; rw [hu 27 (by decide), sgX_z27]
  · intro j _; rw [hu 28 (by decide), sgX_z28]
  · intro j _; rw [hu 38 (by decide), sgX_z38]
  · intro j _; rw [hu 39 (by decide), sgX_z39]
theorem RX_00 (sg : Nat → Nat → Int32) (la : Nat → Nat → Int64) (g : GGM) (hl : ∀ i, 60 ≤ i → i < 93 → la i = fun _ => 0) (hg : ∀ k, k < 60 → sgM sg 60 k = g.1 k ∧ la k = g.2 k) : RX g (sgM sg 60) la s00 none none := by
  have z : ∀ i, 60 < i → sgM sg 60 i = fun _ => 0 := fun i hi => sgM_gt hi
  refine ⟨sgM_00 sg 60, ⟨?_, z 75 (by decide)⟩, fun s hs => ?_, fun k hk => ?_, Or.inl ⟨rfl, rfl⟩, Or.inl rfl, hg⟩
  · show sgM sg 60 60 7 = 0; unfold sgM; rw [az_w_nj (by decide), az_w_nj (by decide), az_w_nj (by decide), az_w_nj (by decide), az_w_nj (by decide), az_w_nj (by decide), az_z_ge (Nat.le_refl _)]
  · unfold rSh
    rw [z 61 (by decide), z 62 (by decide), z 63 (by decide), z 74 (by decide), hl (65 + s) (by omega) (by omega)]
    exact ⟨rfl, fun q => absurd rfl q, fun q => absurd rfl q, rfl⟩
  · rw [z 76 (by decide)]; rfl

