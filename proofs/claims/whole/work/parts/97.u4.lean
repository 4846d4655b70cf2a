def c00 : CT := (0, 25, 1, 0, -1, 2, 1, 0, -1, (fun _ => 0), (fun _ => 0), (fun _ => 0), (fun _ => 0), (fun _ => 0))
theorem c00_tl : cTl c00 := fun _ _ => ⟨rfl, rfl, rfl, rfl, rfl⟩
theorem sgM_ne {sg : Nat → Nat → Int32} {n k : Nat} (h : k ≠ n) : sgM sg n k = az_z sg n k := by unfold sgM; rw [az_w_ne h, az_w_ne h, az_w_ne h, az_w_ne h, az_w_ne h, az_w_ne h]
theorem sgM_lt {sg : Nat → Nat → Int32} {n k : Nat} (h : k < n) : sgM sg n k = sg k := by rw [sgM_ne (by omega), az_z_lt h]
theorem sgM_gt {sg : Nat → Nat → Int32} {n k : Nat} (h : n < k) : sgM sg n k = fun _ => 0 := by rw [sgM_ne (by omega), az_z_ge (by omega)]
theorem sgM_00 (sg : Nat → Nat → Int32) (n : Nat) : mput (sgM sg n) n c00 = sgM sg n := by
  refine (mput_ext (s := sgM sg n) (t := sgM sg n) (fun j => ?_) ?_ ?_ ?_ ?_ ?_ (fun _ _ _ => rfl)).symm
  · by_cases hf : mfj j = false
    · rw [mrow_out hf]
    · rcases mfj_or hf with rfl | rfl | rfl | rfl | rfl | rfl | rfl | rfl
      · show sgM sg n n 9 = 25; unfold sgM; rw [az_w_nj (by decide), az_w_nj (by decide), az_w_nj (by decide), az_w_nj (by decide), az_w_nj (by decide), az_w_at]
      · show sgM sg n n 10 = 1; unfold sgM; rw [az_w_nj (by decide), az_w_nj (by decide), az_w_nj (by decide), az_w_nj (by decide), az_w_at]
      · show sgM sg n n 11 = 0; unfold sgM; rw [az_w_nj (by decide), az_w_nj (by decide), az_w_nj (by decide), az_w_nj (by decide), az_w_nj (by decide), az_w_nj (by decide), az_z_ge (Nat.le_refl _)]
      · show sgM sg n n 12 = -1; unfold sgM; rw [az_w_nj (by decide), az_w_nj (by decide), az_w_nj (by decide), az_w_at]
      · show sgM sg n n 13 = 2; unfold sgM; rw [az_w_nj (by decide), az_w_nj (by decide), az_w_at]
      · show sgM sg n n 14 = 0; unfold sgM; rw [az_w_nj (by decide), az_w_nj (by decide), az_w_nj (by decide), az_w_nj (by decide), az_w_nj (by decide), az_w_nj (by decide), az_z_ge (Nat.le_refl _)]
      · show sgM sg n n 20 = 1; unfold sgM; rw [az_w_nj (by decide), az_w_at]
      · show sgM sg n n 30 = -1; unfold sgM; rw [az_w_at]
  · exact sgM_gt (by omega)
  · exact sgM_gt (by omega)
  · exact sgM_gt (by omega)
  · exact sgM_gt (by omega)
  · exact sgM_gt (by omega)
theorem ap_lt {sh L : List az_Sh} {i : Nat} {q : az_Sh} (h : sh[i]? = some q) : (sh ++ L)[i]? = some q := by
  have hi : i < sh.length := (List.getElem?_eq_some_iff.mp h).1
  rw [List.getElem?_append_left hi]; exact h
theorem set_ne {L : List az_Sh} {i k : Nat} {x : az_Sh} (h : k ≠ i) : (L.set k x)[i]? = L[i]? := List.getElem?_set_ne h
theorem set_at {L : List az_Sh} {k : Nat} {x : az_Sh} (h : k < L.length) : (L.set k x)[k]? = some x := by rw [List.getElem?_set_self h]
def sNk (sh : List az_Sh) (n : Nat) (tr : Option Nat) : List az_Sh := (sh ++ lyM n none none).set 60 (8, 0, [some (some (60 + 1)), some (some (60 + 2)), some (some (60 + 3)), some (some (60 + 4)), some (some (60 + 13)), some (some (60 + 14)), some (some (60 + 15)), none, some (some (60 + 16)), none, none, none, none, none, none, some (some (60 + 17)), some (some (60 + 18)), some (some (60 + 19)), some (some (60 + 20)), some (some (60 + 21)), none, some (some n), some tr, none, none, none, none, none, some (some (60 + 22)), none, none, none, none, some (some (60 + 23)), none, none, none, some (some (60 + 24)), some (some (60 + 25)), none, none, some (some (60 + 26))])
theorem RS_nk {sh : List az_Sh} {n : Nat} {tr : Option Nat} (hS : RS sh none tr) (hn : sh.length = n) : RS (sNk sh n tr) (some n) tr ∧ (∀ k, k < 60 → (sNk sh n tr)[k]? = sh[k]?) ∧ (n = 93 ∨ n = 126) ∧ ¬ tr = some n := by
  obtain ⟨h1, h2, h3, h4⟩ := hS
  have hn9 : n = 93 ∨ n = 126 := by
    rcases h4 with q | q | q | q | q
    · exact Or.inl (hn.symm.trans q.2.2)
    · exact absurd q.1 (by intro z; cases z)
    · exact Or.inr (hn.symm.trans q.2.2)
    · exact absurd q.1 (by intro z; cases z)
    · exact absurd q.1 (by intro z; cases z)
  have hf : ∀ i q, i ≠ 60 → sh[i]? = some q → (sNk sh n tr)[i]? = some q := fun i q a b => (set_ne (Ne.symm a)).trans (ap_lt b)
  have hM : az_at (sNk sh n tr) 60 (lyM 60 (some n) tr) := by
    intro k q hk
    cases k with
    | zero =>
      refine (set_at (by rw [List.length_append]; omega)).trans ?_
      exact hk
    | succ k => exact hf _ _ (by omega) (h1 (k + 1) q hk)
  have hN : az_at (sNk sh n tr) n (lyM n none none) := by
    intro k q hk
    refine (set_ne (by omega)).trans ?_
    rw [ap_get hn]; exact hk
  have hlen : (sNk sh n tr).length = n + 33 := by
    unfold sNk
    rw [List.length_set, List.length_append, hn]; rfl
  have hO : ∀ k, tr = some k → az_at (sNk sh n tr) k (lyM k none none) := by
    intro k e i q hi
    have hk9 : k = 93 := by
      rcases h4 with z | z | z | z | z
      · rw [z.2.1] at e; cases e
      · exact absurd z.1 (by intro y; cases y)
      · rw [z.2.1] at e; cases e; rfl
      · exact absurd z.1 (by intro y; cases y)
      · exact absurd z.1 (by intro y; cases y)
    exact hf _ _ (by omega) (h3 k e i q hi)
  refine ⟨⟨hM, fun k e => by cases e; exact hN, hO, ?_⟩, fun k hk => ?_, hn9, ?_⟩
  · rcases h4 with z | z | z | z | z
    · have : n = 93 := hn.symm.trans z.2.2; subst this; exact Or.inr (Or.inl ⟨rfl, z.2.1, hlen⟩)
    · exact absurd z.1 (by intro y; cases y)
    · have : n = 126 := hn.symm.trans z.2.2; subst this; exact Or.inr (Or.inr (Or.inr (Or.inr ⟨rfl, z.2.1⟩)))
    · exact absurd z.1 (by intro y; cases y)
    · exact absurd z.1 (by intro y; cases y)
  · refine (set_ne (by omega)).trans ?_
    rw [List.getElem?_append_left (by omega)]
  · intro e
    rcases h4 with z | z | z | z | z
    · rw [z.2.1] at e; cases e
    · exact absurd z.1 (by intro y; cases y)
    · rw [z.2.1] at e; cases e; have := z.2.2; omega
    · exact absurd z.1 (by intro y; cases y)
    · exact absurd z.1 (by intro y; cases y)
def sNt (sh : List az_Sh) (n : Nat) (kp : Option Nat) : List az_Sh := (sh ++ lyM n none none).set 60 (8, 0, [some (some (60 + 1)), some (some (60 + 2)), some (some (60 + 3)), some (some (60 + 4)), some (some (60 + 13)), some (some (60 + 14)), some (some (60 + 15)), none, some (some (60 + 16)), none, none, none, none, none, none, some (some (60 + 17)), some (some (60 + 18)), some (some (60 + 19)), some (some (60 + 20)), some (some (60 + 21)), none, some kp, some (some n), none, none, none, none, none, some (some (60 + 22)), none, none, none, none, some (some (60 + 23)), none, none, none, some (some (60 + 24)), some (some (60 + 25)), none, none, some (some (60 + 26))])
theorem RS_nt {sh : List az_Sh} {n : Nat} {kp : Option Nat} (hS : RS sh kp none) (hn : sh.length = n) : RS (sNt sh n kp) kp (some n) ∧ (∀ k, k < 60 → (sNt sh n kp)[k]? = sh[k]?) ∧ (n = 93 ∨ n = 126) ∧ ¬ kp = some n := by
  obtain ⟨h1, h2, h3, h4⟩ := hS
  have hn9 : n = 93 ∨ n = 126 := by
    rcases h4 with q | q | q | q | q
    · exact Or.inl (hn.symm.trans q.2.2)
    · exact Or.inr (hn.symm.trans q.2.2)
    · exact absurd q.2.1 (by intro z; cases z)
    · exact absurd q.2 (by intro z; cases z)
    · exact absurd q.2 (by intro z; cases z)
  have hf : ∀ i q, i ≠ 60 → sh[i]? = some q → (sNt sh n kp)[i]? = some q := fun i q a b => (set_ne (Ne.symm a)).trans (ap_lt b)
  have hM : az_at (sNt sh n kp) 60 (lyM 60 kp (some n)) := by
    intro k q hk
    cases k with
    | zero =>
      refine (set_at (by rw [List.length_append]; omega)).trans ?_
      exact hk
    | succ k => exact hf _ _ (by omega) (h1 (k + 1) q hk)
  have hN : az_at (sNt sh n kp) n (lyM n none none) := by
    intro k q hk
    refine (set_ne (by omega)).trans ?_
    rw [ap_get hn]; exact hk
  have hlen : (sNt sh n kp).length = n + 33 := by
    unfold sNt
    rw [List.length_set, List.length_append, hn]; rfl
  have hO : ∀ k, kp = some k → az_at (sNt sh n kp) k (lyM k none none) := by
    intro k e i q hi
    have hk9 : k = 93 := by
      rcases h4 with z | z | z | z | z
      · rw [z.1] at e; cases e
      · rw [z.1] at e; cases e; rfl
      · exact absurd z.2.1 (by intro y; cases y)
      · exact absurd z.2 (by intro y; cases y)
      · exact absurd z.2 (by intro y; cases y)
    exact hf _ _ (by omega) (h2 k e i q hi)
  refine ⟨⟨hM, hO, fun k e => by cases e; exact hN, ?_⟩, fun k hk => ?_, hn9, ?_⟩
  · rcases h4 with z | z | z | z | z
    · have : n = 93 := hn.symm.trans z.2.2; subst this; exact Or.inr (Or.inr (Or.inl ⟨z.1, rfl, hlen⟩))
    · have : n = 126 := hn.symm.trans z.2.2; subst this; exact Or.inr (Or.inr (Or.inr (Or.inl ⟨z.1, rfl⟩)))
    · exact absurd z.2.1 (by intro y; cases y)
    · exact absurd z.2 (by intro y; cases y)
    · exact absurd z.2 (by intro y; cases y)
  · refine (set_ne (by omega)).trans ?_
    rw [List.getElem?_append_left (by omega)]
  · intro e
    rcases h4 with z | z | z | z | z
    · rw [z.1] at e; cases e
    · rw [z.1] at e; cases e; have := z.2.2; omega
    · exact absurd z.2.1 (by intro y; cases y)
    · exact absurd z.2 (by intro y; cases y)
    · exact absurd z.2 (by intro y; cases y)
def RN (sh : List az_Sh) (g : GGM) (kp tr : Option Nat) (v : Value) (σ : SGM) : Option Value → az_St → Prop := fun r S1 => r = some v ∧ ∃ sh' kp' tr' sg la, S1 = (sh', sg, la) ∧ RS sh' kp' tr' ∧ (∀ k, k < 60 → sh'[k]? = sh[k]?) ∧ RX g sg la σ kp' tr' ∧ (kp = none ∧ (∃ n, kp' = some n) ∧ tr' = tr ∨ tr = none ∧ (∃ n, tr' = some n) ∧ kp' = kp)
set_option maxHeartbeats 1000000 in
set_option maxRecDepth 100000 in
theorem y_image_0 (l : Launch) (G : az_Gh) (d : Nat) (sh : List az_Sh) (sg : Nat → Nat → Int32) (la : Nat → Nat → Int64) (g : GGM) (σ : SGM) (tr : Option Nat) (hS : RS sh none tr) (hR : RX g sg la σ none tr) (hW : WF σ) : AM l G (d + 32) mX8_image [.ref 60] (sh, sg, la) 33 1069 (RN sh g none tr (.int (q_image σ).1) (q_image σ).2) := by
  refine az_ab knX8_image (Nat.le_of_ble_eq_true rfl) rfl (fun Post hP => ?_)
  show AW l G mX8_image (d + 32) (az_F G Post) 33 1069 0 [some (.ref 60)] [] (sh, sg, la)
  have hM := hS.1
  have hn9 := (RS_nk hS rfl).2.2.1
  generalize hn : sh.length = n at hn9
  obtain ⟨hS1, hlo, -, hne⟩ := RS_nk hS hn
  refine A_aload_n dX8_image_0 rfl rfl ?_
  refine B_getN dX8_image_1 flX8_359 (hM 0 _ rfl) rfl ?_
  refine A_ifnonnullN dX8_image_4 ?_
  refine A_aload_n dX8_image_7 rfl rfl ?_
  refine A_newO (bc2 := 32) (bs2 := 1027) dX8_image_8 clX8 ckX8_8 in_RX8 ii_RX8 dfX8.symm (by decide) (by decide) (by decide) (by show sh.length < 1000; omega) ?_
  show AW l G mX8_image (d + 32) (az_F G Post) 32 1027 11 [some (.ref 60)] [.ref sh.length, .ref 60] (sh ++ [(8, 0, [some none, some none, some none, some none, some none, some none, some none, none, some none, none, none, none, none, none, none, some none, some none, some none, some none, some none, none, some none, some none, none, none, none, none, none, some none, none, none, none, none, some none, none, none, none, some none, some none, none, none, some none])], az_z sg sh.length, az_z la sh.length)
  rw [hn]
  refine A_dup dX8_image_11 rfl ?_
  refine A_callI (n := 0) (as := []) (bc2 := 0) (bs2 := 0) dX8_image_12 kiX8_init mlX8_219 rfl (i_X8 l G (d + 30) sh sg la n hn (by omega)) (by omega) (by decide) (by decide) rfl (Nat.le_of_ble_eq_true rfl) (fun r S1 hp => ?_)
  obtain ⟨rfl, rfl⟩ := hp
  show AW l G mX8_image (d + 32) (az_F G Post) 0 0 15 [some (.ref 60)] [.ref n, .ref 60] (sh ++ lyM n none none, sgM sg n, az_z la n)
  refine B_putR (j := 21) dX8_image_15 fwX8_359 (ap_lt (hM 0 _ rfl)) (Nat.le_of_ble_eq_true rfl) (fun _ => rfl) (fun _ => rfl) rfl ?_
  show AW l G mX8_image (d + 32) (az_F G Post) 0 0 18 [some (.ref 60)] [] (sNk sh n tr, sgM sg n, az_z la n)
  have hM1 := hS1.1
  have hN1 := hS1.2.1 n rfl
  have hx1 : mput (sgM sg n) 60 (xN σ) = sgM sg n := mput_keep hR.1 (fun i a b => sgM_lt (by omega))
  refine A_aload_n dX8_image_18 rfl rfl ?_
  refine B_getR dX8_image_19 flX8_359 (hM1 0 _ rfl) rfl ?_
  refine A_aload_n dX8_image_22 rfl rfl ?_
  refine A_callV (n := 0) dX8_image_23 kvX8_takeFrom mlX8_220 rfl (az_rc_obj clX8 (hN1 0 _ rfl)) (r_takeFrom l G (d + 30) (sNk sh n tr) (sgM sg n) (az_z la n) n 60 none none (some n) tr c00 (xN σ) hN1 hM1 (by omega) (sgM_00 sg n) hx1 hW.1.2.2.1 c00_tl hW.1.2.1) (by omega) (Nat.le_refl _) (Nat.le_refl _) rfl (Nat.le_of_ble_eq_true rfl) (fun r S1 hp => ?_)
  obtain ⟨rfl, rfl⟩ := hp
  refine A_iconst (v := 1) dX8_image_26 (by decide) ?_
  refine A_iret dX8_image_27 rfl (hP _ _ ⟨rfl, sNk sh n tr, some n, tr, _, _, rfl, hS1, hlo, ?_, Or.inl ⟨rfl, ⟨n, rfl⟩, rfl⟩⟩)
  refine hR.far (fun i hi => (mput_ne (by omega) (by omega)).trans (sgM_lt (by omega))) (fun i hi => az_zL_lt (by omega)) rfl rfl rfl rfl rfl (Or.inr ⟨n, xN σ, rfl, rfl, hn9, mput_mput _ _ _ _⟩) ?_
  rcases hR.2.2.2.2.2.1 with q | ⟨k2, c2, q1, q2, q3, q4, q5⟩
  · exact Or.inl q
  · have hk2 : k2 ≠ n := fun z => hne (q1.trans (congrArg some z))
    have hk3 : k2 + 32 < n := by
      rcases hS.2.2.2 with z | z | z | z | z
      · rw [z.2.1] at q1; cases q1
      · exact absurd z.1 (by intro y; cases y)
      · rw [z.2.1] at q1; cases q1; have := z.2.2; omega
      · exact absurd z.1 (by intro y; cases y)
      · exact absurd z.1 (by intro y; cases y)
    exact Or.inr ⟨k2, c2, q1, q2, fun y => hk2 (Option.some.inj y).symm, mput_keep q4 (fun i a b => (mput_ne (by omega) (by omega)).trans (sgM_lt (by omega))), q5⟩
