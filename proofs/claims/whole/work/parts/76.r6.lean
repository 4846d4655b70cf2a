theorem zall_bit : ∀ n, n < 9 → ∀ j, j < n → zG1 (((1 : Int32) <<< (nI n &&& 31)) - 1) j = true := by decide +kernel
theorem zone_bit : ∀ p, p < 8 → ∀ j, j < 8 → zG1 ((1 : Int32) <<< (nI p &&& 31)) j = decide (j = p) := by decide +kernel
theorem zno_bit : ∀ j, j < 8 → zG1 0 j = false := by decide +kernel
theorem shl_n : ∀ n, n < 9 → (1 : Int32) <<< (nI n &&& 31) = nI (2 ^ n) := by decide +kernel
theorem zmf_cong {c : CT} {g h : Nat → Bool} {m : Int32} {i : Nat} (e : ∀ j, j < i → g j = h j) : zmf c g m i = zmf c h m i := by
  unfold zmf
  congr 1
  funext j
  by_cases q : j < i
  · rw [e j q]
  · rw [if_neg (fun z => q z.1), if_neg (fun z => q z.1)]
theorem zmf_all {c : CT} (hO : cOk c) (m : Int32) : zmf c (zG1 (((1 : Int32) <<< (nI (cN c) &&& 31)) - 1)) m (cN c) = zmf c (fun _ => true) m (cN c) := zmf_cong (fun j hj => zall_bit (cN c) (by have := hO.2; omega) j hj)
theorem sFe_id (c : CT) : sFe c (cFe c) = c := by simp only [sFe, cPp, cAir, cFall, cDay, cWin, cCoal, cSeed, cLov, cAway, cKd, cAa, cPr, cBr, cFe]
theorem zmf_zero {c : CT} (hO : cOk c) (m : Int32) : zmf c (zG1 0) m (cN c) = c := by
  unfold zmf
  have e : (fun j => if j < cN c ∧ zG1 0 j = true then mnI 40 (cFe c j + m) else cFe c j) = cFe c := by
    funext j
    rw [if_neg (fun z => by have := hO.2; rw [zno_bit j (by omega)] at z; exact absurd z.2 (by decide))]
  rw [e, sFe_id]
theorem zmf_one {c : CT} (hO : cOk c) {p : Nat} (hp : p < cN c) (m : Int32) : zmf c (zG1 ((1 : Int32) <<< (nI p &&& 31))) m (cN c) = zmore c p m := by
  have h8 := hO.2
  unfold zmf zmore
  congr 1
  funext j
  by_cases q : j = p
  · subst q
    rw [az_up_self, if_pos ⟨hp, by rw [zone_bit j (by omega) j (by omega)]; simp⟩]
  · rw [az_up_ne q, if_neg (fun z => by rw [zone_bit p (by omega) j (by omega)] at z; exact q (of_decide_eq_true z.2))]
theorem zlm_gt {c : CT} {t p k0 : Nat} (h4 : k0 ≤ 40) (h : ∀ k, 1 ≤ k → k ≤ k0 → zno (zmore c p (nI k)) t = false) : k0 < zlm c t p := by
  unfold zlm
  rcases Nat.lt_or_ge (fa_first (fun k => zno (zmore c p (nI (k + 1))) t) 40) k0 with q | q
  · have := fa_first_yes (fun k => zno (zmore c p (nI (k + 1))) t) 40 (by omega)
    rw [h _ (by omega) (by omega)] at this
    cases this
  · omega
theorem zlf_gt {c : CT} {t k0 : Nat} (h4 : k0 ≤ 40) : ∀ {i : Nat}, (∀ p, p < i → ∀ k, 1 ≤ k → k ≤ k0 → zno (zmore c p (nI k)) t = false) → k0 < (zlf c t i).1
  | 0, _ => by show k0 < 41; omega
  | i + 1, h => by
    have h1 := zlf_gt (c := c) (t := t) h4 (i := i) (fun p hp => h p (by omega))
    have h2 := zlm_gt (p := i) h4 (fun k a b => h i (by omega) k a b)
    show k0 < (if zlm c t i < (zlf c t i).1 then (zlm c t i, some i) else zlf c t i).1
    by_cases q : zlm c t i < (zlf c t i).1
    · rw [if_pos q]; exact h2
    · rw [if_neg q]; exact h1
theorem zlf_rest {c : CT} {t k0 p0 : Nat} (hf : ∀ p, ∀ k, 1 ≤ k → k < k0 → p < cN c → zno (zmore c p (nI k)) t = false) (h0 : zlf c t (p0 + 1) = (k0, some p0)) : ∀ m, p0 + 1 + m ≤ cN c → zlf c t (p0 + 1 + m) = (k0, some p0)
  | 0, _ => h0
  | m + 1, hm => by
    have ih := zlf_rest hf h0 m (by omega)
    show zlf c t ((p0 + 1 + m) + 1) = _
    rw [zlf_no (fun k a b => hf _ k a (by rw [ih] at b; exact b) (by omega))]
    exact ih
theorem zleast_found {c : CT} {t k0 p0 : Nat} (hz : zno c t = false) (h1 : 1 ≤ k0) (h4 : k0 ≤ 40) (hp : p0 < cN c) (hf : ∀ k, 1 ≤ k → k < k0 → ∀ p, p < cN c → zno (zmore c p (nI k)) t = false) (hr : ∀ p, p < p0 → zno (zmore c p (nI k0)) t = false) (hy : zno (zmore c p0 (nI k0)) t = true) : zleast c t = (nI k0, nI p0) := by
  have hg := zlf_gt (c := c) (t := t) h4 (i := p0) (fun p hp2 k a b => by
    rcases Nat.lt_or_ge k k0 with q | q
    · exact hf k a q p (by omega)
    · rw [show k = k0 by omega]; exact hr p hp2)
  have e1 := zlf_yes h1 hg hy (fun k a b => hf k a b p0 hp)
  have e2 := zlf_rest (fun p k a b q => hf k a b p q) e1 (cN c - (p0 + 1)) (by omega)
  rw [show p0 + 1 + (cN c - (p0 + 1)) = cN c by omega] at e2
  unfold zleast
  rw [if_neg (by rw [hz]; decide), e2, if_neg (by intro q; cases q)]
  rfl
theorem zlf_none {c : CT} {t : Nat} (hf : ∀ k, 1 ≤ k → k ≤ 40 → ∀ p, p < cN c → zno (zmore c p (nI k)) t = false) : ∀ i, i ≤ cN c → zlf c t i = (41, none)
  | 0, _ => rfl
  | i + 1, h => by
    have ih := zlf_none hf i (by omega)
    rw [zlf_no (fun k a b => hf k a (by rw [ih] at b; exact Nat.lt_succ_iff.mp b) i (by omega))]
    exact ih
theorem zleast_none {c : CT} {t : Nat} (hz : zno c t = false) (hf : ∀ k, 1 ≤ k → k ≤ 40 → ∀ p, p < cN c → zno (zmore c p (nI k)) t = false) : zleast c t = (-1, -1) := by
  unfold zleast
  rw [if_neg (by rw [hz]; decide), zlf_none hf _ (Nat.le_refl _), if_pos rfl]
  rfl
/-- nothing found yet, or what is to be found -/
def fA (u : Nat → Nat → Int32) (c : CT) (t i j : Nat) : Prop := u 60 35 = -1 ∧ u 60 36 = -1 ∧ zno c t = false ∧ (∀ k, 1 ≤ k → k < i → ∀ p, p < cN c → zno (zmore c p (nI k)) t = false) ∧ ∀ p, p < j → zno (zmore c p (nI i)) t = false
def fB (u : Nat → Nat → Int32) (c : CT) (t : Nat) : Prop := (u 60 35, u 60 36) = zleast c t ∧ ¬ u 60 35 = -1
theorem fA.sD {u v : Nat → Nat → Int32} {c : CT} {t i j : Nat} (h : fA u c t i j) (hs : sD u v) : fA v c t i j := ⟨(hs.2 35 (by decide) (by decide) (by decide)).trans h.1, (hs.2 36 (by decide) (by decide) (by decide)).trans h.2.1, h.2.2⟩
theorem fA.next {u : Nat → Nat → Int32} {c : CT} {t i : Nat} (h : fA u c t i (cN c)) : fA u c t (i + 1) 0 := ⟨h.1, h.2.1, h.2.2.1, fun k a b p hp => by
  rcases Nat.lt_or_ge k i with q | q
  · exact h.2.2.2.1 k a q p hp
  · rw [show k = i by omega]; exact h.2.2.2.2 p hp, fun p hp => absurd hp (by omega)⟩
theorem fA.one {u : Nat → Nat → Int32} {c : CT} {t i j : Nat} (h : fA u c t i j) (hn : zno (zmore c j (nI i)) t = false) : fA u c t i (j + 1) := ⟨h.1, h.2.1, h.2.2.1, h.2.2.2.1, fun p hp => by
  rcases Nat.lt_or_ge p j with q | q
  · exact h.2.2.2.2 p q
  · rw [show p = j by omega]; exact hn⟩
theorem fA.hit {u : Nat → Nat → Int32} {c : CT} {t i j : Nat} (h : fA u c t i j) (h1 : 1 ≤ i) (h4 : i ≤ 40) (hj : j < cN c) (hy : zno (zmore c j (nI i)) t = true) : fB (az_w (az_w u 60 35 (nI i)) 60 36 (nI j)) c t := by
  refine ⟨?_, ?_⟩
  · rw [az_w_at, az_w_nj (by decide), az_w_at, zleast_found h.2.2.1 h1 h4 hj h.2.2.2.1 h.2.2.2.2 hy]
  · rw [az_w_nj (by decide), az_w_at]; exact nI_n1 (by omega)
theorem fA.none {u : Nat → Nat → Int32} {c : CT} {t j : Nat} (h : fA u c t 41 j) : (u 60 35, u 60 36) = zleast c t := by
  rw [h.1, h.2.1, zleast_none h.2.2.1 (fun k a b => h.2.2.2.1 k a (by omega))]
set_option maxHeartbeats 1000000 in
set_option maxRecDepth 100000 in
theorem r_findFeed (l : Launch) (G : az_Gh) (d : Nat) (sh : List az_Sh) (u : Nat → Nat → Int32) (la : Nat → Nat → Int64) (kp tr : Option Nat) (c : CT) (t : Nat) (hM : az_at sh 60 (lyM 60 kp tr)) (hO : cOk c) (hL : cLv c) (ht : t ≤ 60) : AM l G (d + 6) mX8_findFeed [.ref 60, .int (nI t)] (sh, (mput u 60 c), la) 0 0 (fun r1 S1 => r1 = none ∧ ∃ u2, sC u u2 ∧ (u2 60 35, u2 60 36) = zleast c t ∧ S1 = (sh, mput u2 60 c, la)) := by
  refine az_am knX8_findFeed (Nat.le_of_ble_eq_true rfl) rfl (fun Post hP => ?_)
  show AW l G mX8_findFeed (d + 6) (az_F G Post) 0 0 0 [some (.ref 60), some (.int (nI t)), none, none] [] (sh, (mput u 60 c), la)
  have h8 := hO.2
  refine A_aload_n dX8_findFeed_0 rfl rfl ?_
  refine A_aload_n dX8_findFeed_1 rfl rfl ?_
  refine A_iconst (v := 0) dX8_findFeed_2 (by decide) ?_
  refine A_iconst (v := 0) dX8_findFeed_3 (by decide) ?_
  refine A_iload_n dX8_findFeed_4 rfl rfl ?_
  refine A_callV (n := 0) dX8_findFeed_5 kvX8_isLater mlX8_282 rfl (az_rc_obj clX8 (hM 0 _ rfl)) (r_isLater l G d sh u la kp tr c 0 0 t hM hO hL (by omega)) (by omega) (Nat.le_refl _) (Nat.le_refl _) rfl (Nat.le_of_ble_eq_true rfl) (fun r S1 hp => ?_)
  obtain ⟨rfl, u2_1, hs2_1, rfl⟩ := hp
  show AW l G mX8_findFeed (d + 6) (az_F G Post) 0 0 8 [some (.ref 60), some (.int (nI t)), none, none] [.int (b2i (zno (zmf c (zG1 0) 0 (cN c)) t = true)), .ref 60] (sh, (mput u2_1 60 c), la)
  refine B_top (show b2i (zno (zmf c (zG1 0) 0 (cN c)) t = true) = b2i (zno (c) t = true) by rw [zmf_zero hO]) ?_
  refine A_if_eq (tgt := 15) dX8_findFeed_8 rfl (fun h_1 => ?_) (fun h_1 => ?_)
  · skip
    have h_1' := b2i_0.mp h_1
    refine A_iconst (v := (-1)) dX8_findFeed_15 (by decide) ?_
    refine B_putI dX8_findFeed_16 fwX8_285 (hM 0 _ rfl) rfl ?_
    refine B_sg (show _ = (mput (az_w u2_1 60 35 (-1)) 60 c) from mput_wj rfl) ?_
    refine A_aload_n dX8_findFeed_19 rfl rfl ?_
    refine A_iconst (v := (-1)) dX8_findFeed_20 (by decide) ?_
    refine B_putI dX8_findFeed_21 fwX8_288 (hM 0 _ rfl) rfl ?_
    refine B_sg (show _ = (mput (az_w (az_w u2_1 60 35 (-1)) 60 36 (-1)) 60 c) from mput_wj rfl) ?_
    refine A_iconst (v := 1) dX8_findFeed_24 (by decide) ?_
    refine A_istore_n (lo2 := [some (.ref 60), some (.int (nI t)), some (.int 1), none]) dX8_findFeed_25 rfl (by decide) rfl ?_
    have loop : ∀ (q_i9 i9 : Nat) (u9 : Nat → Nat → Int32), i9 + q_i9 = 41 → sC u u9 → 1 ≤ i9 → (fA u9 c t i9 0 ∨ fB u9 c t) → AW l G mX8_findFeed (d + 6) (az_F G Post) 0 0 26 [some (.ref 60), some (.int (nI t)), some (.int (nI i9)), none] [] (sh, (mput u9 60 c), la) := by
      intro q_i9
      induction q_i9 with
      | zero =>
        intro i9 u9 hi_i9 hs9 h1i hin9 
        have hN_i9 : i9 = 41 := by omega
        subst i9
        refine A_iload_n dX8_findFeed_26 rfl rfl ?_
        refine A_bipush (v := 40) dX8_findFeed_27 (by decide) ?_
        refine A_icmp_gt (tgt := 92) dX8_findFeed_29 rfl (fun h_2 => ?_) (fun h_2 => ?_)
        · skip
          exact A_vret dX8_findFeed_92 rfl (hP _ _ ⟨rfl, u9, hs9, (hin9.elim (fun q => q.none) (fun q => q.1)), rfl⟩)
        · skip
          exact absurd (by decide) h_2
      | succ q_i9 ih =>
        intro i9 u9 hi_i9 hs9 h1i hin9 
        refine A_iload_n dX8_findFeed_26 rfl rfl ?_
        refine A_bipush (v := 40) dX8_findFeed_27 (by decide) ?_
        refine A_icmp_gt (tgt := 92) dX8_findFeed_29 rfl (fun h_3 => ?_) (fun h_3 => ?_)
        · skip
          exact absurd h_3 (nI_nlt (b := i9) (a := 40) (by omega) (by decide))
        · skip
          refine A_aload_n dX8_findFeed_32 rfl rfl ?_
          refine B_getV (u9 60 35) dX8_findFeed_33 flX8_285 (hM 0 _ rfl) rfl (mput_f rfl) ?_
          refine A_iconst (v := (-1)) dX8_findFeed_36 (by decide) ?_
          refine A_icmp_ne (tgt := 92) dX8_findFeed_37 rfl (fun h_4 => ?_) (fun h_4 => ?_)
          · skip
            exact A_vret dX8_findFeed_92 rfl (hP _ _ ⟨rfl, u9, hs9, (hin9.elim (fun q => absurd q.1 h_4) (fun q => q.1)), rfl⟩)
          · skip
            have hA9 : fA u9 c t i9 0 := hin9.resolve_right (fun q => q.2 h_4)
            refine A_iconst (v := 0) dX8_findFeed_40 (by decide) ?_
            refine A_istore_n (lo2 := [some (.ref 60), some (.int (nI t)), some (.int (nI i9)), some (.int 0)]) dX8_findFeed_41 rfl (by decide) rfl ?_
            have loop2 : ∀ (q_j9 j9 : Nat) (v9 : Nat → Nat → Int32), j9 + q_j9 = cN c → sC u v9 → (fA v9 c t i9 j9 ∨ fB v9 c t) → AW l G mX8_findFeed (d + 6) (az_F G Post) 0 0 42 [some (.ref 60), some (.int (nI t)), some (.int (nI i9)), some (.int (nI j9))] [] (sh, (mput v9 60 c), la) := by
              intro q_j9
              induction q_j9 with
              | zero =>
                intro j9 v9 hi_j9 hsv hin 
                have hN_j9 : j9 = cN c := by omega
                subst j9
                refine A_iload_n dX8_findFeed_42 rfl rfl ?_
                refine A_aload_n dX8_findFeed_43 rfl rfl ?_
                refine B_getV (nI (cN c)) dX8_findFeed_44 flX8_88 (hM 0 _ rfl) rfl ((mr_14 _ _ _).trans hO.1) ?_
                refine A_icmp_ge (tgt := 86) dX8_findFeed_47 rfl (fun h_5 => ?_) (fun h_5 => ?_)
                · skip
                  refine A_iinc (v := nI (i9 + 1)) (lo2 := [some (.ref 60), some (.int (nI t)), some (.int (nI (i9 + 1))), some (.int (nI (cN c)))]) dX8_findFeed_86 rfl (nI_1 i9) (by decide) rfl ?_
                  refine A_goto (tgt := 26) dX8_findFeed_89 rfl ?_
                  refine A_forget (lo2 := [some (.ref 60), some (.int (nI t)), some (.int (nI (i9 + 1))), none]) ⟨rfl, rfl, rfl, trivial⟩ ?_
                  refine ih (i9 + 1) _ (by omega) hsv (by omega) (hin.imp (fun q => q.next) id)
                · skip
                  exact absurd (Int32.le_refl _) h_5
              | succ q_j9 ih_j9 =>
                intro j9 v9 hi_j9 hsv hin 
                refine A_iload_n dX8_findFeed_42 rfl rfl ?_
                refine A_aload_n dX8_findFeed_43 rfl rfl ?_
                refine B_getV (nI (cN c)) dX8_findFeed_44 flX8_88 (hM 0 _ rfl) rfl ((mr_14 _ _ _).trans hO.1) ?_
                refine A_icmp_ge (tgt := 86) dX8_findFeed_47 rfl (fun h_6 => ?_) (fun h_6 => ?_)
                · skip
                  exact absurd h_6 (nI_ge (by omega) (by omega))
                · skip
                  refine A_aload_n dX8_findFeed_50 rfl rfl ?_
                  refine B_getV (v9 60 35) dX8_findFeed_51 flX8_285 (hM 0 _ rfl) rfl (mput_f rfl) ?_
                  refine A_iconst (v := (-1)) dX8_findFeed_54 (by decide) ?_
                  refine A_icmp_ne (tgt := 86) dX8_findFeed_55 rfl (fun h_7 => ?_) (fun h_7 => ?_)
                  · skip
                    have hB9 : fB v9 c t := hin.resolve_left (fun q => h_7 q.1)
                    refine A_iinc (v := nI (i9 + 1)) (lo2 := [some (.ref 60), some (.int (nI t)), some (.int (nI (i9 + 1))), some (.int (nI j9))]) dX8_findFeed_86 rfl (nI_1 i9) (by decide) rfl ?_
                    refine A_goto (tgt := 26) dX8_findFeed_89 rfl ?_
                    refine A_forget (lo2 := [some (.ref 60), some (.int (nI t)), some (.int (nI (i9 + 1))), none]) ⟨rfl, rfl, rfl, trivial⟩ ?_
                    refine ih (i9 + 1) _ (by omega) hsv (by omega) (Or.inr hB9)
                  · skip
                    have hA : fA v9 c t i9 j9 := hin.resolve_right (fun q => q.2 h_7)
                    refine A_aload_n dX8_findFeed_58 rfl rfl ?_
                    refine A_iconst (v := 1) dX8_findFeed_59 (by decide) ?_
                    refine A_iload_n dX8_findFeed_60 rfl rfl ?_
                    refine A_ishl dX8_findFeed_61 ?_
                    refine A_iload_n dX8_findFeed_62 rfl rfl ?_
                    refine A_iload_n dX8_findFeed_63 rfl rfl ?_
                    refine A_callV (n := 0) dX8_findFeed_64 kvX8_isLater mlX8_282 rfl (az_rc_obj clX8 (hM 0 _ rfl)) (r_isLater l G d sh v9 la kp tr c (1 <<< (nI j9 &&& 31)) (nI i9) t hM hO hL (by omega)) (by omega) (Nat.le_refl _) (Nat.le_refl _) rfl (Nat.le_of_ble_eq_true rfl) (fun r S1 hp => ?_)
                    obtain ⟨rfl, u2_2, hs2_2, rfl⟩ := hp
                    show AW l G mX8_findFeed (d + 6) (az_F G Post) 0 0 67 [some (.ref 60), some (.int (nI t)), some (.int (nI i9)), some (.int (nI j9))] [.int (b2i (zno (zmf c (zG1 (1 <<< (nI j9 &&& 31))) (nI i9) (cN c)) t = true))] (sh, (mput u2_2 60 c), la)
                    refine B_top (show b2i (zno (zmf c (zG1 (1 <<< (nI j9 &&& 31))) (nI i9) (cN c)) t = true) = b2i (zno (zmore c j9 (nI i9)) t = true) by rw [zmf_one hO (by omega)]) ?_
                    refine A_if_eq (tgt := 80) dX8_findFeed_67 rfl (fun h_8 => ?_) (fun h_8 => ?_)
                    · skip
                      have h_8' := b2i_0.mp h_8
                      have hA2 := hA.sD hs2_2
                      refine A_iinc (v := nI (j9 + 1)) (lo2 := [some (.ref 60), some (.int (nI t)), some (.int (nI i9)), some (.int (nI (j9 + 1)))]) dX8_findFeed_80 rfl (nI_1 j9) (by decide) rfl ?_
                      refine A_goto (tgt := 42) dX8_findFeed_83 rfl ?_
                      refine ih_j9 (j9 + 1) _ (by omega) (hsv.tr hs2_2.c) (Or.inl (hA2.one (Bool.eq_false_iff.mpr h_8')))
                    · skip
                      have h_8' := b2i_n.mp h_8
                      have hA2 := hA.sD hs2_2
                      refine A_aload_n dX8_findFeed_70 rfl rfl ?_
                      refine A_iload_n dX8_findFeed_71 rfl rfl ?_
                      refine B_putI dX8_findFeed_72 fwX8_285 (hM 0 _ rfl) rfl ?_
                      refine B_sg (show _ = (mput (az_w u2_2 60 35 (nI i9)) 60 c) from mput_wj rfl) ?_
                      refine A_aload_n dX8_findFeed_75 rfl rfl ?_
                      refine A_iload_n dX8_findFeed_76 rfl rfl ?_
                      refine B_putI dX8_findFeed_77 fwX8_288 (hM 0 _ rfl) rfl ?_
                      refine B_sg (show _ = (mput (az_w (az_w u2_2 60 35 (nI i9)) 60 36 (nI j9)) 60 c) from mput_wj rfl) ?_
                      refine A_iinc (v := nI (j9 + 1)) (lo2 := [some (.ref 60), some (.int (nI t)), some (.int (nI i9)), some (.int (nI (j9 + 1)))]) dX8_findFeed_80 rfl (nI_1 j9) (by decide) rfl ?_
                      refine A_goto (tgt := 42) dX8_findFeed_83 rfl ?_
                      refine ih_j9 (j9 + 1) _ (by omega) (((hsv.tr hs2_2.c).w (j := 35) rfl _).w (j := 36) rfl _) (Or.inr (hA2.hit (by omega) (by omega) (by omega) h_8'))
            exact loop2 (cN c) 0 _ (by omega) hs9 (Or.inl hA9)
    exact loop ((41) - (1)) 1 _ (by omega) (((sC.rf u).tr hs2_1.c).w (j := 35) rfl _ |>.w (j := 36) rfl _) (Nat.le_refl _) (Or.inl ⟨by rw [az_w_nj (by decide), az_w_at], az_w_at _ _ _ _, Bool.eq_false_iff.mpr h_1', fun k a b => absurd a (by omega), fun p hp => absurd hp (by omega)⟩)
  · skip
    have h_1' := b2i_n.mp h_1
    refine A_iconst (v := 0) dX8_findFeed_11 (by decide) ?_
    refine A_goto (tgt := 16) dX8_findFeed_12 rfl ?_
    refine B_putI dX8_findFeed_16 fwX8_285 (hM 0 _ rfl) rfl ?_
    refine B_sg (show _ = (mput (az_w u2_1 60 35 0) 60 c) from mput_wj rfl) ?_
    refine A_aload_n dX8_findFeed_19 rfl rfl ?_
    refine A_iconst (v := (-1)) dX8_findFeed_20 (by decide) ?_
    refine B_putI dX8_findFeed_21 fwX8_288 (hM 0 _ rfl) rfl ?_
    refine B_sg (show _ = (mput (az_w (az_w u2_1 60 35 0) 60 36 (-1)) 60 c) from mput_wj rfl) ?_
    refine A_iconst (v := 1) dX8_findFeed_24 (by decide) ?_
    refine A_istore_n (lo2 := [some (.ref 60), some (.int (nI t)), some (.int 1), none]) dX8_findFeed_25 rfl (by decide) rfl ?_
    have loop : ∀ (q_i9 i9 : Nat) (u9 : Nat → Nat → Int32), i9 + q_i9 = 41 → sC u u9 → 1 ≤ i9 → (fA u9 c t i9 0 ∨ fB u9 c t) → AW l G mX8_findFeed (d + 6) (az_F G Post) 0 0 26 [some (.ref 60), some (.int (nI t)), some (.int (nI i9)), none] [] (sh, (mput u9 60 c), la) := by
      intro q_i9
      induction q_i9 with
      | zero =>
        intro i9 u9 hi_i9 hs9 h1i hin9 
        have hN_i9 : i9 = 41 := by omega
        subst i9
        refine A_iload_n dX8_findFeed_26 rfl rfl ?_
        refine A_bipush (v := 40) dX8_findFeed_27 (by decide) ?_
        refine A_icmp_gt (tgt := 92) dX8_findFeed_29 rfl (fun h_9 => ?_) (fun h_9 => ?_)
        · skip
          exact A_vret dX8_findFeed_92 rfl (hP _ _ ⟨rfl, u9, hs9, (hin9.elim (fun q => q.none) (fun q => q.1)), rfl⟩)
        · skip
          exact absurd (by decide) h_9
      | succ q_i9 ih =>
        intro i9 u9 hi_i9 hs9 h1i hin9 
        refine A_iload_n dX8_findFeed_26 rfl rfl ?_
        refine A_bipush (v := 40) dX8_findFeed_27 (by decide) ?_
        refine A_icmp_gt (tgt := 92) dX8_findFeed_29 rfl (fun h_10 => ?_) (fun h_10 => ?_)
        · skip
          exact absurd h_10 (nI_nlt (b := i9) (a := 40) (by omega) (by decide))
        · skip
          refine A_aload_n dX8_findFeed_32 rfl rfl ?_
          refine B_getV (u9 60 35) dX8_findFeed_33 flX8_285 (hM 0 _ rfl) rfl (mput_f rfl) ?_
          refine A_iconst (v := (-1)) dX8_findFeed_36 (by decide) ?_
          refine A_icmp_ne (tgt := 92) dX8_findFeed_37 rfl (fun h_11 => ?_) (fun h_11 => ?_)
          · skip
            exact A_vret dX8_findFeed_92 rfl (hP _ _ ⟨rfl, u9, hs9, (hin9.elim (fun q => absurd q.1 h_11) (fun q => q.1)), rfl⟩)
          · skip
            have hA9 : fA u9 c t i9 0 := hin9.resolve_right (fun q => q.2 h_11)
            refine A_iconst (v := 0) dX8_findFeed_40 (by decide) ?_
            refine A_istore_n (lo2 := [some (.ref 60), some (.int (nI t)), some (.int (nI i9)), some (.int 0)]) dX8_findFeed_41 rfl (by decide) rfl ?_
            have loop2 : ∀ (q_j9 j9 : Nat) (v9 : Nat → Nat → Int32), j9 + q_j9 = cN c → sC u v9 → (fA v9 c t i9 j9 ∨ fB v9 c t) → AW l G mX8_findFeed (d + 6) (az_F G Post) 0 0 42 [some (.ref 60), some (.int (nI t)), some (.int (nI i9)), some (.int (nI j9))] [] (sh, (mput v9 60 c), la) := by
              intro q_j9
              induction q_j9 with
              | zero =>
                intro j9 v9 hi_j9 hsv hin 
                have hN_j9 : j9 = cN c := by omega
                subst j9
                refine A_iload_n dX8_findFeed_42 rfl rfl ?_
                refine A_aload_n dX8_findFeed_43 rfl rfl ?_
                refine B_getV (nI (cN c)) dX8_findFeed_44 flX8_88 (hM 0 _ rfl) rfl ((mr_14 _ _ _).trans hO.1) ?_
                refine A_icmp_ge (tgt := 86) dX8_findFeed_47 rfl (fun h_12 => ?_) (fun h_12 => ?_)
                · skip
                  refine A_iinc (v := nI (i9 + 1)) (lo2 := [some (.ref 60), some (.int (nI t)), some (.int (nI (i9 + 1))), some (.int (nI (cN c)))]) dX8_findFeed_86 rfl (nI_1 i9) (by decide) rfl ?_
                  refine A_goto (tgt := 26) dX8_findFeed_89 rfl ?_
                  refine A_forget (lo2 := [some (.ref 60), some (.int (nI t)), some (.int (nI (i9 + 1))), none]) ⟨rfl, rfl, rfl, trivial⟩ ?_
                  refine ih (i9 + 1) _ (by omega) hsv (by omega) (hin.imp (fun q => q.next) id)
                · skip
                  exact absurd (Int32.le_refl _) h_12
              | succ q_j9 ih_j9 =>
                intro j9 v9 hi_j9 hsv hin 
                refine A_iload_n dX8_findFeed_42 rfl rfl ?_
                refine A_aload_n dX8_findFeed_43 rfl rfl ?_
                refine B_getV (nI (cN c)) dX8_findFeed_44 flX8_88 (hM 0 _ rfl) rfl ((mr_14 _ _ _).trans hO.1) ?_
                refine A_icmp_ge (tgt := 86) dX8_findFeed_47 rfl (fun h_13 => ?_) (fun h_13 => ?_)
                · skip
                  exact absurd h_13 (nI_ge (by omega) (by omega))
                · skip
                  refine A_aload_n dX8_findFeed_50 rfl rfl ?_
                  refine B_getV (v9 60 35) dX8_findFeed_51 flX8_285 (hM 0 _ rfl) rfl (mput_f rfl) ?_
                  refine A_iconst (v := (-1)) dX8_findFeed_54 (by decide) ?_
                  refine A_icmp_ne (tgt := 86) dX8_findFeed_55 rfl (fun h_14 => ?_) (fun h_14 => ?_)
                  · skip
                    have hB9 : fB v9 c t := hin.resolve_left (fun q => h_14 q.1)
                    refine A_iinc (v := nI (i9 + 1)) (lo2 := [some (.ref 60), some (.int (nI t)), some (.int (nI (i9 + 1))), some (.int (nI j9))]) dX8_findFeed_86 rfl (nI_1 i9) (by decide) rfl ?_
                    refine A_goto (tgt := 26) dX8_findFeed_89 rfl ?_
                    refine A_forget (lo2 := [some (.ref 60), some (.int (nI t)), some (.int (nI (i9 + 1))), none]) ⟨rfl, rfl, rfl, trivial⟩ ?_
                    refine ih (i9 + 1) _ (by omega) hsv (by omega) (Or.inr hB9)
                  · skip
                    have hA : fA v9 c t i9 j9 := hin.resolve_right (fun q => q.2 h_14)
                    refine A_aload_n dX8_findFeed_58 rfl rfl ?_
                    refine A_iconst (v := 1) dX8_findFeed_59 (by decide) ?_
                    refine A_iload_n dX8_findFeed_60 rfl rfl ?_
                    refine A_ishl dX8_findFeed_61 ?_
                    refine A_iload_n dX8_findFeed_62 rfl rfl ?_
                    refine A_iload_n dX8_findFeed_63 rfl rfl ?_
                    refine A_callV (n := 0) dX8_findFeed_64 kvX8_isLater mlX8_282 rfl (az_rc_obj clX8 (hM 0 _ rfl)) (r_isLater l G d sh v9 la kp tr c (1 <<< (nI j9 &&& 31)) (nI i9) t hM hO hL (by omega)) (by omega) (Nat.le_refl _) (Nat.le_refl _) rfl (Nat.le_of_ble_eq_true rfl) (fun r S1 hp => ?_)
                    obtain ⟨rfl, u2_3, hs2_3, rfl⟩ := hp
                    show AW l G mX8_findFeed (d + 6) (az_F G Post) 0 0 67 [some (.ref 60), some (.int (nI t)), some (.int (nI i9)), some (.int (nI j9))] [.int (b2i (zno (zmf c (zG1 (1 <<< (nI j9 &&& 31))) (nI i9) (cN c)) t = true))] (sh, (mput u2_3 60 c), la)
                    refine B_top (show b2i (zno (zmf c (zG1 (1 <<< (nI j9 &&& 31))) (nI i9) (cN c)) t = true) = b2i (zno (zmore c j9 (nI i9)) t = true) by rw [zmf_one hO (by omega)]) ?_
                    refine A_if_eq (tgt := 80) dX8_findFeed_67 rfl (fun h_15 => ?_) (fun h_15 => ?_)
                    · skip
                      have h_15' := b2i_0.mp h_15
                      have hA2 := hA.sD hs2_3
                      refine A_iinc (v := nI (j9 + 1)) (lo2 := [some (.ref 60), some (.int (nI t)), some (.int (nI i9)), some (.int (nI (j9 + 1)))]) dX8_findFeed_80 rfl (nI_1 j9) (by decide) rfl ?_
                      refine A_goto (tgt := 42) dX8_findFeed_83 rfl ?_
                      refine ih_j9 (j9 + 1) _ (by omega) (hsv.tr hs2_3.c) (Or.inl (hA2.one (Bool.eq_false_iff.mpr h_15')))
                    · skip
                      have h_15' := b2i_n.mp h_15
                      have hA2 := hA.sD hs2_3
                      refine A_aload_n dX8_findFeed_70 rfl rfl ?_
                      refine A_iload_n dX8_findFeed_71 rfl rfl ?_
                      refine B_putI dX8_findFeed_72 fwX8_285 (hM 0 _ rfl) rfl ?_
                      refine B_sg (show _ = (mput (az_w u2_3 60 35 (nI i9)) 60 c) from mput_wj rfl) ?_
                      refine A_aload_n dX8_findFeed_75 rfl rfl ?_
                      refine A_iload_n dX8_findFeed_76 rfl rfl ?_
                      refine B_putI dX8_findFeed_77 fwX8_288 (hM 0 _ rfl) rfl ?_
                      refine B_sg (show _ = (mput (az_w (az_w u2_3 60 35 (nI i9)) 60 36 (nI j9)) 60 c) from mput_wj rfl) ?_
                      refine A_iinc (v := nI (j9 + 1)) (lo2 := [some (.ref 60), some (.int (nI t)), some (.int (nI i9)), some (.int (nI (j9 + 1)))]) dX8_findFeed_80 rfl (nI_1 j9) (by decide) rfl ?_
                      refine A_goto (tgt := 42) dX8_findFeed_83 rfl ?_
                      refine ih_j9 (j9 + 1) _ (by omega) (((hsv.tr hs2_3.c).w (j := 35) rfl _).w (j := 36) rfl _) (Or.inr (hA2.hit (by omega) (by omega) (by omega) h_15'))
            exact loop2 (cN c) 0 _ (by omega) hs9 (Or.inl hA9)
    exact loop ((41) - (1)) 1 _ (by omega) (((sC.rf u).tr hs2_1.c).w (j := 35) rfl _ |>.w (j := 36) rfl _) (Nat.le_refl _) (Or.inr ⟨by rw [az_w_at, az_w_nj (by decide), az_w_at, zleast, if_pos h_1'], by rw [az_w_nj (by decide), az_w_at]; decide⟩)
set_option maxHeartbeats 1000000 in
set_option maxRecDepth 100000 in
theorem y_feeds (l : Launch) (G : az_Gh) (d : Nat) (sh : List az_Sh) (sg : Nat → Nat → Int32) (la : Nat → Nat → Int64) (g : GGM) (σ : SGM) (kp tr : Option Nat) (t w : Int32) (hM : az_at sh 60 (lyM 60 kp tr)) (hR : RX g sg la σ kp tr) (hW : WF σ)  : AM l G (d + 32) mX8_feeds [.ref 60, .int t, .int w] (sh, sg, la) 0 0 (RQ sh g kp tr (.int (q_feeds σ t w).1) (q_feeds σ t w).2) := by
  refine az_am knX8_feeds (Nat.le_of_ble_eq_true rfl) rfl (fun Post hP => ?_)
  show AW l G mX8_feeds (d + 32) (az_F G Post) 0 0 0 [some (.ref 60), some (.int t), some (.int w)] [] (sh, sg, la)
  have hO := hW.1.1.1
  have hL := cW_lv hW.1
  have haw := hW.1.2.2.1
  have h8 := hO.2
  refine B_sg hR.z.symm ?_
  refine A_iload_n dX8_feeds_0 rfl rfl ?_
  refine A_i2l dX8_feeds_1 ?_
  refine A_lconst (v := 0) dX8_feeds_2 (by decide) ?_
  refine A_ldc2 (v := 60) dX8_feeds_3 lcX8_291 ?_
  refine A_callS (n := 0) dX8_feeds_6 ksX8_in mlX8_91 rfl (c_X8_inI l G (d + 31) sh (mput sg 60 (xN σ)) la t 60 60 (by decide)) (by omega) (Nat.le_refl _) (Nat.le_refl _) rfl (Nat.le_of_ble_eq_true rfl) (fun r S1 hp => ?_)
  obtain ⟨rfl, rfl⟩ := hp
  show AW l G mX8_feeds (d + 32) (az_F G Post) 0 0 9 [some (.ref 60), some (.int t), some (.int w)] [.int (b2i (0 ≤ t ∧ t ≤ 60))] (sh, (mput sg 60 (xN σ)), la)
  refine A_if_eq (tgt := 24) dX8_feeds_9 rfl (fun h_1 => ?_) (fun h_1 => ?_)
  · skip
    have h_1' := b2i_0.mp h_1
    refine A_aload_n dX8_feeds_24 rfl rfl ?_
    refine A_bipush (v := (-2)) dX8_feeds_25 (by decide) ?_
    refine A_callV (n := 0) dX8_feeds_27 kvX8_refuse mlX8_101 rfl (az_rc_obj clX8 (hM 0 _ rfl)) (c_X8_refuse l G (d + 31) sh (mput sg 60 (xN σ)) la kp tr (-2) 0 hM (by decide) (by decide)) (by omega) (Nat.le_refl _) (Nat.le_refl _) rfl (Nat.le_of_ble_eq_true rfl) (fun r S1 hp => ?_)
    obtain ⟨rfl, rfl⟩ := hp
    show AW l G mX8_feeds (d + 32) (az_F G Post) 0 0 30 [some (.ref 60), some (.int t), some (.int w)] [.int (-2)] (sh, (az_w (mput sg 60 (xN σ)) 76 (0 + 2) ((mput sg 60 (xN σ)) 76 (0 + 2) + 1)), la)
    have hq : (q_feeds σ t w) = ((-2), (rfs σ 0)) := by
      unfold q_feeds
      try simp only [h_1', and_true, true_and, and_false, false_and, and_self, or_true, true_or, or_false, false_or, not_true_eq_false, not_false_eq_true, if_true, if_false, ite_true, ite_false, decide_true, decide_false, reduceIte]
      first | done | rfl
    exact A_iret dX8_feeds_30 rfl (hP _ _ (RQ_i hq ((hR.fin0 (sC.rf sg)).ref (k := 0) (by decide))))
  · skip
    have h_1' := b2i_n.mp h_1
    refine A_iload_n dX8_feeds_12 rfl rfl ?_
    refine A_i2l dX8_feeds_13 ?_
    refine A_lconst (v := 0) dX8_feeds_14 (by decide) ?_
    refine A_ldc2 (v := 2) dX8_feeds_15 lcX8_133 ?_
    refine A_callS (n := 0) dX8_feeds_18 ksX8_in mlX8_91 rfl (c_X8_inI l G (d + 31) sh (mput sg 60 (xN σ)) la w 2 2 (by decide)) (by omega) (Nat.le_refl _) (Nat.le_refl _) rfl (Nat.le_of_ble_eq_true rfl) (fun r S1 hp => ?_)
    obtain ⟨rfl, rfl⟩ := hp
    show AW l G mX8_feeds (d + 32) (az_F G Post) 0 0 21 [some (.ref 60), some (.int t), some (.int w)] [.int (b2i (0 ≤ w ∧ w ≤ 2))] (sh, (mput sg 60 (xN σ)), la)
    refine A_if_ne (tgt := 31) dX8_feeds_21 rfl (fun h_2 => ?_) (fun h_2 => ?_)
    · skip
      have h_2' := b2i_n.mp h_2
      obtain ⟨t1, ht1, rfl⟩ := nI_ex (m := 60) h_1'
      have hc_t1 : (nI t1).toNatClampNeg = t1 := nI_clamp (by omega)
      refine A_aload_n dX8_feeds_31 rfl rfl ?_
      refine B_getV (nI (cN (xN σ))) dX8_feeds_32 flX8_88 (hM 0 _ rfl) rfl ((mr_14 _ _ _).trans hO.1) ?_
      refine A_if_ne (tgt := 45) dX8_feeds_35 rfl (fun h_3 => ?_) (fun h_3 => ?_)
      · skip
        refine A_aload_n dX8_feeds_45 rfl rfl ?_
        refine A_iload_n dX8_feeds_46 rfl rfl ?_
        refine A_callV (n := 0) dX8_feeds_47 kvX8_findFeed mlX8_293 rfl (az_rc_obj clX8 (hM 0 _ rfl)) (r_findFeed l G (d + 25) sh sg la kp tr (xN σ) t1 hM hO hL (by omega)) (by omega) (Nat.le_refl _) (Nat.le_refl _) rfl (Nat.le_of_ble_eq_true rfl) (fun r S1 hp => ?_)
        obtain ⟨rfl, u2, hs2, hz2, rfl⟩ := hp
        have hz35 := congrArg Prod.fst hz2
        have hz36 := congrArg Prod.snd hz2
        show AW l G mX8_feeds (d + 32) (az_F G Post) 0 0 50 [some (.ref 60), some (.int (nI t1)), some (.int w)] [] (sh, (mput u2 60 (xN σ)), la)
        refine A_iload_n dX8_feeds_50 rfl rfl ?_
        refine A_if_ne (tgt := 61) dX8_feeds_51 rfl (fun h_4 => ?_) (fun h_4 => ?_)
        · skip
          refine A_iload_n dX8_feeds_61 rfl rfl ?_
          refine A_iconst (v := 1) dX8_feeds_62 (by decide) ?_
          refine A_icmp_ne (tgt := 73) dX8_feeds_63 rfl (fun h_5 => ?_) (fun h_5 => ?_)
          · skip
            refine A_aload_n dX8_feeds_73 rfl rfl ?_
            refine B_getV ((zleast (xN σ) t1).1) dX8_feeds_74 flX8_285 (hM 0 _ rfl) rfl ((mput_f rfl).trans hz35) ?_
            refine A_iconst (v := (-1)) dX8_feeds_77 (by decide) ?_
            refine A_icmp_ne (tgt := 85) dX8_feeds_78 rfl (fun h_6 => ?_) (fun h_6 => ?_)
            · skip
              refine A_aload_n dX8_feeds_85 rfl rfl ?_
              refine B_getV ((zleast (xN σ) t1).1) dX8_feeds_86 flX8_285 (hM 0 _ rfl) rfl ((mput_f rfl).trans hz35) ?_
              refine A_aload_n dX8_feeds_89 rfl rfl ?_
              refine B_getV (cCoal (xN σ)) dX8_feeds_90 flX8_47 (hM 0 _ rfl) rfl (mr_13 _ _ _) ?_
              refine A_imul dX8_feeds_93 ?_
              have hq : (q_feeds σ (nI t1) w) = (((zleast (xN σ) t1).1 * cCoal (xN σ)), σ) := by
                unfold q_feeds
                rw [if_pos ⟨h_1', h_2'⟩, if_neg (by rw [hO.1]; exact h_3), hc_t1, if_neg h_5, if_neg (fun q => q.elim h_4 h_6)]
              exact A_iret dX8_feeds_94 rfl (hP _ _ (RQ_i hq (hR.fin0 ((sC.rf sg).tr hs2))))
            · skip
              refine A_iconst (v := (-1)) dX8_feeds_81 (by decide) ?_
              refine A_goto (tgt := 94) dX8_feeds_82 rfl ?_
              have hq : (q_feeds σ (nI t1) w) = ((-1), σ) := by
                unfold q_feeds
                rw [if_pos ⟨h_1', h_2'⟩, if_neg (by rw [hO.1]; exact h_3), hc_t1, if_neg h_5, if_pos (Or.inr h_6), h_6]
              exact A_iret dX8_feeds_94 rfl (hP _ _ (RQ_i hq (hR.fin0 ((sC.rf sg).tr hs2))))
          · skip
            refine A_aload_n dX8_feeds_66 rfl rfl ?_
            refine B_getV ((zleast (xN σ) t1).2) dX8_feeds_67 flX8_288 (hM 0 _ rfl) rfl ((mput_f rfl).trans hz36) ?_
            refine A_goto (tgt := 94) dX8_feeds_70 rfl ?_
            have hq : (q_feeds σ (nI t1) w) = ((zleast (xN σ) t1).2, σ) := by
              unfold q_feeds
              rw [if_pos ⟨h_1', h_2'⟩, if_neg (by rw [hO.1]; exact h_3), hc_t1, if_pos h_5]
            exact A_iret dX8_feeds_94 rfl (hP _ _ (RQ_i hq (hR.fin0 ((sC.rf sg).tr hs2))))
        · skip
          refine A_aload_n dX8_feeds_54 rfl rfl ?_
          refine B_getV ((zleast (xN σ) t1).1) dX8_feeds_55 flX8_285 (hM 0 _ rfl) rfl ((mput_f rfl).trans hz35) ?_
          refine A_goto (tgt := 94) dX8_feeds_58 rfl ?_
          have hq : (q_feeds σ (nI t1) w) = ((zleast (xN σ) t1).1, σ) := by
            unfold q_feeds
            rw [if_pos ⟨h_1', h_2'⟩, if_neg (by rw [hO.1]; exact h_3), hc_t1, if_neg (by rw [h_4]; decide), if_pos (Or.inl h_4)]
          exact A_iret dX8_feeds_94 rfl (hP _ _ (RQ_i hq (hR.fin0 ((sC.rf sg).tr hs2))))
      · skip
        refine A_aload_n dX8_feeds_38 rfl rfl ?_
        refine A_bipush (v := (-5)) dX8_feeds_39 (by decide) ?_
        refine A_callV (n := 0) dX8_feeds_41 kvX8_refuse mlX8_101 rfl (az_rc_obj clX8 (hM 0 _ rfl)) (c_X8_refuse l G (d + 31) sh (mput sg 60 (xN σ)) la kp tr (-5) 3 hM (by decide) (by decide)) (by omega) (Nat.le_refl _) (Nat.le_refl _) rfl (Nat.le_of_ble_eq_true rfl) (fun r S1 hp => ?_)
        obtain ⟨rfl, rfl⟩ := hp
        show AW l G mX8_feeds (d + 32) (az_F G Post) 0 0 44 [some (.ref 60), some (.int (nI t1)), some (.int w)] [.int (-5)] (sh, (az_w (mput sg 60 (xN σ)) 76 (3 + 2) ((mput sg 60 (xN σ)) 76 (3 + 2) + 1)), la)
        have hq : (q_feeds σ (nI t1) w) = ((-5), (rfs σ 3)) := by
          unfold q_feeds
          rw [if_pos ⟨h_1', h_2'⟩, if_pos (by rw [hO.1]; exact h_3)]
          first | done | rfl
        exact A_iret dX8_feeds_44 rfl (hP _ _ (RQ_i hq ((hR.fin0 (sC.rf sg)).ref (k := 3) (by decide))))
    · skip
      have h_2' := b2i_0.mp h_2
      refine A_aload_n dX8_feeds_24 rfl rfl ?_
      refine A_bipush (v := (-2)) dX8_feeds_25 (by decide) ?_
      refine A_callV (n := 0) dX8_feeds_27 kvX8_refuse mlX8_101 rfl (az_rc_obj clX8 (hM 0 _ rfl)) (c_X8_refuse l G (d + 31) sh (mput sg 60 (xN σ)) la kp tr (-2) 0 hM (by decide) (by decide)) (by omega) (Nat.le_refl _) (Nat.le_refl _) rfl (Nat.le_of_ble_eq_true rfl) (fun r S1 hp => ?_)
      obtain ⟨rfl, rfl⟩ := hp
      show AW l G mX8_feeds (d + 32) (az_F G Post) 0 0 30 [some (.ref 60), some (.int t), some (.int w)] [.int (-2)] (sh, (az_w (mput sg 60 (xN σ)) 76 (0 + 2) ((mput sg 60 (xN σ)) 76 (0 + 2) + 1)), la)
      have hq : (q_feeds σ t w) = ((-2), (rfs σ 0)) := by
        unfold q_feeds
        try simp only [h_1', h_2', and_true, true_and, and_false, false_and, and_self, or_true, true_or, or_false, false_or, not_true_eq_false, not_false_eq_true, if_true, if_false, ite_true, ite_false, decide_true, decide_false, reduceIte]
        first | done | rfl
      exact A_iret dX8_feeds_30 rfl (hP _ _ (RQ_i hq ((hR.fin0 (sC.rf sg)).ref (k := 0) (by decide))))
set_option maxHeartbeats 1000000 in
set_option maxRecDepth 100000 in
theorem y_all (l : Launch) (G : az_Gh) (d : Nat) (sh : List az_Sh) (sg : Nat → Nat → Int32) (la : Nat → Nat → Int64) (g : GGM) (σ : SGM) (kp tr : Option Nat) (t : Int32) (hM : az_at sh 60 (lyM 60 kp tr)) (hR : RX g sg la σ kp tr) (hW : WF σ)  : AM l G (d + 32) mX8_all [.ref 60, .int t] (sh, sg, la) 0 0 (RQ sh g kp tr (.int (q_all σ t).1) (q_all σ t).2) := by
  refine az_am knX8_all (Nat.le_of_ble_eq_true rfl) rfl (fun Post hP => ?_)
  show AW l G mX8_all (d + 32) (az_F G Post) 0 0 0 [some (.ref 60), some (.int t), none] [] (sh, sg, la)
  have hO := hW.1.1.1
  have hL := cW_lv hW.1
  have haw := hW.1.2.2.1
  have h8 := hO.2
  refine B_sg hR.z.symm ?_
  refine A_iload_n dX8_all_0 rfl rfl ?_
  refine A_i2l dX8_all_1 ?_
  refine A_lconst (v := 0) dX8_all_2 (by decide) ?_
  refine A_ldc2 (v := 60) dX8_all_3 lcX8_291 ?_
  refine A_callS (n := 0) dX8_all_6 ksX8_in mlX8_91 rfl (c_X8_inI l G (d + 31) sh (mput sg 60 (xN σ)) la t 60 60 (by decide)) (by omega) (Nat.le_refl _) (Nat.le_refl _) rfl (Nat.le_of_ble_eq_true rfl) (fun r S1 hp => ?_)
  obtain ⟨rfl, rfl⟩ := hp
  show AW l G mX8_all (d + 32) (az_F G Post) 0 0 9 [some (.ref 60), some (.int t), none] [.int (b2i (0 ≤ t ∧ t ≤ 60))] (sh, (mput sg 60 (xN σ)), la)
  refine A_if_ne (tgt := 19) dX8_all_9 rfl (fun h_1 => ?_) (fun h_1 => ?_)
  · skip
    have h_1' := b2i_n.mp h_1
    obtain ⟨t1, ht1, rfl⟩ := nI_ex (m := 60) h_1'
    have hc_t1 : (nI t1).toNatClampNeg = t1 := nI_clamp (by omega)
    refine A_iconst (v := 0) dX8_all_19 (by decide) ?_
    refine A_istore_n (lo2 := [some (.ref 60), some (.int (nI t1)), some (.int 0)]) dX8_all_20 rfl (by decide) rfl ?_
    have loop : ∀ (q_i9 i9 : Nat) (u9 : Nat → Nat → Int32), i9 + q_i9 = 41 → sC sg u9 → (∀ k, k < i9 → zno (zmf (xN σ) (fun _ => true) (nI k) (cN (xN σ))) t1 = false) → AW l G mX8_all (d + 32) (az_F G Post) 0 0 21 [some (.ref 60), some (.int (nI t1)), some (.int (nI i9))] [] (sh, (mput u9 60 (xN σ)), la) := by
      intro q_i9
      induction q_i9 with
      | zero =>
        intro i9 u9 hi_i9 hs9 hno 
        have hN_i9 : i9 = 41 := by omega
        subst i9
        refine A_iload_n dX8_all_21 rfl rfl ?_
        refine A_bipush (v := 40) dX8_all_22 (by decide) ?_
        refine A_icmp_gt (tgt := 52) dX8_all_24 rfl (fun h_2 => ?_) (fun h_2 => ?_)
        · skip
          refine A_iconst (v := (-1)) dX8_all_52 (by decide) ?_
          have hq : (q_all σ (nI t1)) = ((-1), σ) := by
            unfold q_all zeach
            rw [if_pos h_1', hc_t1, zfind_none hno]
            first | done | rfl
          exact A_iret dX8_all_53 rfl (hP _ _ (RQ_i hq (hR.fin0 hs9)))
        · skip
          exact absurd (by decide) h_2
      | succ q_i9 ih =>
        intro i9 u9 hi_i9 hs9 hno 
        refine A_iload_n dX8_all_21 rfl rfl ?_
        refine A_bipush (v := 40) dX8_all_22 (by decide) ?_
        refine A_icmp_gt (tgt := 52) dX8_all_24 rfl (fun h_3 => ?_) (fun h_3 => ?_)
        · skip
          exact absurd h_3 (nI_nlt (b := i9) (a := 40) (by omega) (by decide))
        · skip
          refine A_aload_n dX8_all_27 rfl rfl ?_
          refine A_iconst (v := 1) dX8_all_28 (by decide) ?_
          refine A_aload_n dX8_all_29 rfl rfl ?_
          refine B_getV (nI (cN (xN σ))) dX8_all_30 flX8_88 (hM 0 _ rfl) rfl ((mr_14 _ _ _).trans hO.1) ?_
          refine A_ishl dX8_all_33 ?_
          refine A_iconst (v := 1) dX8_all_34 (by decide) ?_
          refine A_isub dX8_all_35 ?_
          refine A_iload_n dX8_all_36 rfl rfl ?_
          refine A_iload_n dX8_all_37 rfl rfl ?_
          refine A_callV (n := 0) dX8_all_38 kvX8_isLater mlX8_282 rfl (az_rc_obj clX8 (hM 0 _ rfl)) (r_isLater l G (d + 26) sh u9 la kp tr (xN σ) ((1 <<< (nI (cN (xN σ)) &&& 31)) - 1) (nI i9) t1 hM hO hL (by omega)) (by omega) (Nat.le_refl _) (Nat.le_refl _) rfl (Nat.le_of_ble_eq_true rfl) (fun r S1 hp => ?_)
          obtain ⟨rfl, u2_4, hs2_4, rfl⟩ := hp
          show AW l G mX8_all (d + 32) (az_F G Post) 0 0 41 [some (.ref 60), some (.int (nI t1)), some (.int (nI i9))] [.int (b2i (zno (zmf (xN σ) (zG1 ((1 <<< (nI (cN (xN σ)) &&& 31)) - 1)) (nI i9) (cN (xN σ))) t1 = true))] (sh, (mput u2_4 60 (xN σ)), la)
          refine B_top (show b2i (zno (zmf (xN σ) (zG1 (1 <<< (nI (cN (xN σ)) &&& 31) - 1)) (nI i9) (cN (xN σ))) t1 = true) = b2i (zno (zmf (xN σ) (fun _ => true) (nI i9) (cN (xN σ))) t1 = true) by rw [zmf_all hO]) ?_
          refine A_if_eq (tgt := 46) dX8_all_41 rfl (fun h_4 => ?_) (fun h_4 => ?_)
          · skip
            have h_4' := b2i_0.mp h_4
            refine A_iinc (v := nI (i9 + 1)) (lo2 := [some (.ref 60), some (.int (nI t1)), some (.int (nI (i9 + 1)))]) dX8_all_46 rfl (nI_1 i9) (by decide) rfl ?_
            refine A_goto (tgt := 21) dX8_all_49 rfl ?_
            refine ih (i9 + 1) _ (by omega) (hs9.tr hs2_4.c) (lt_s hno (Bool.eq_false_iff.mpr h_4'))
          · skip
            have h_4' := b2i_n.mp h_4
            refine A_iload_n dX8_all_44 rfl rfl ?_
            have hq : (q_all σ (nI t1)) = (nI i9, σ) := by
              unfold q_all zeach
              rw [if_pos h_1', hc_t1, zfind_some (i := i9) (by omega) h_4' hno]
              first | done | rfl
            exact A_iret dX8_all_45 rfl (hP _ _ (RQ_i hq (hR.fin0 (hs9.tr hs2_4.c))))
    exact loop (41) 0 _ (by omega) (sC.rf sg) lt_0
  · skip
    have h_1' := b2i_0.mp h_1
    refine A_aload_n dX8_all_12 rfl rfl ?_
    refine A_bipush (v := (-2)) dX8_all_13 (by decide) ?_
    refine A_callV (n := 0) dX8_all_15 kvX8_refuse mlX8_101 rfl (az_rc_obj clX8 (hM 0 _ rfl)) (c_X8_refuse l G (d + 31) sh (mput sg 60 (xN σ)) la kp tr (-2) 0 hM (by decide) (by decide)) (by omega) (Nat.le_refl _) (Nat.le_refl _) rfl (Nat.le_of_ble_eq_true rfl) (fun r S1 hp => ?_)
    obtain ⟨rfl, rfl⟩ := hp
    show AW l G mX8_all (d + 32) (az_F G Post) 0 0 18 [some (.ref 60), some (.int t), none] [.int (-2)] (sh, (az_w (mput sg 60 (xN σ)) 76 (0 + 2) ((mput sg 60 (xN σ)) 76 (0 + 2) + 1)), la)
    have hq : (q_all σ t) = ((-2), (rfs σ 0)) := by
      unfold q_all
      try simp only [h_1', and_true, true_and, and_false, false_and, and_self, or_true, true_or, or_false, false_or, not_true_eq_false, not_false_eq_true, if_true, if_false, ite_true, ite_false, decide_true, decide_false, reduceIte]
      first | done | rfl
    exact A_iret dX8_all_18 rfl (hP _ _ (RQ_i hq ((hR.fin0 (sC.rf sg)).ref (k := 0) (by decide))))
theorem zbc_step : ∀ m, m < 256 → 0 < m → zbc (nI (m &&& (m - 1))) + 1 = zbc (nI m) := by decide +kernel
theorem zbc_le : ∀ m, m < 256 → zbc (nI m) < 9 := by decide +kernel
theorem and_pred : ∀ m, m < 256 → 0 < m → nI m &&& (nI m - 1) = nI (m &&& (m - 1)) ∧ m &&& (m - 1) < m := by decide +kernel
theorem zbc_0 : zbc (nI 0) = 0 := by decide +kernel
set_option maxHeartbeats 1000000 in
set_option maxRecDepth 100000 in
theorem c_X8_bits (l : Launch) (G : az_Gh) (d : Nat) (sh : List az_Sh) (sg : Nat → Nat → Int32) (la : Nat → Nat → Int64) (m : Nat) (hm : m < 256) : FM l G d mX8_bits [.int (nI m)] (sh, sg, la) (some (.int (zbc (nI m)))) (sh, sg, la) := by
  refine az_fm knX8_bits (Nat.le_of_ble_eq_true rfl) rfl (fun Post hP => ?_)
  show AW l G mX8_bits d (az_F G Post) 0 0 0 [some (.int (nI m)), none, none] [] (sh, sg, la)
  refine A_iconst (v := 0) dX8_bits_0 (by decide) ?_
  refine A_istore_n (lo2 := [some (.int (nI m)), some (.int 0), none]) dX8_bits_1 rfl (by decide) rfl ?_
  refine A_iload_n dX8_bits_2 rfl rfl ?_
  refine A_istore_n (lo2 := [some (.int (nI m)), some (.int 0), some (.int (nI m))]) dX8_bits_3 rfl (by decide) rfl ?_
  have loop : ∀ (q r : Nat) (x : Int32), r ≤ q → r < 256 → x + zbc (nI r) = zbc (nI m) → AW l G mX8_bits d (az_F G Post) 0 0 4 [some (.int (nI m)), some (.int x), some (.int (nI r))] [] (sh, sg, la) := by
    intro q
    induction q with
    | zero =>
      intro r x h1 h2 h3
      have hr : r = 0 := by omega
      subst hr
      refine A_iload_n dX8_bits_4 rfl rfl ?_
      refine A_if_eq (tgt := 20) dX8_bits_5 rfl (fun h => ?_) (fun h => absurd rfl h)
      refine A_iload_n dX8_bits_20 rfl rfl ?_
      refine A_iret dX8_bits_21 rfl (az_pi hP ?_ rfl)
      rw [← h3, zbc_0, Int32.add_zero]
    | succ q ih =>
      intro r x h1 h2 h3
      refine A_iload_n dX8_bits_4 rfl rfl ?_
      refine A_if_eq (tgt := 20) dX8_bits_5 rfl (fun h => ?_) (fun h => ?_)
      · refine A_iload_n dX8_bits_20 rfl rfl ?_
        refine A_iret dX8_bits_21 rfl (az_pi hP ?_ rfl)
        have hr : r = 0 := (nI_eq (b := 0) (by omega) (by decide)).mp h
        subst hr
        rw [← h3, zbc_0, Int32.add_zero]
      · have hr : 0 < r := Nat.pos_of_ne_zero (fun e => h (by rw [e]; rfl))
        obtain ⟨e1, e2⟩ := and_pred r h2 hr
        refine A_iinc (v := (x + 1)) (lo2 := [some (.int (nI m)), some (.int (x + 1)), some (.int (nI r))]) dX8_bits_8 rfl rfl (by decide) rfl ?_
        refine A_iload_n dX8_bits_11 rfl rfl ?_
        refine A_iload_n dX8_bits_12 rfl rfl ?_
        refine A_iconst (v := 1) dX8_bits_13 (by decide) ?_
        refine A_isub dX8_bits_14 ?_
        refine A_iand dX8_bits_15 ?_
        refine B_top e1 ?_
        refine A_istore_n (lo2 := [some (.int (nI m)), some (.int (x + 1)), some (.int (nI (r &&& (r - 1))))]) dX8_bits_16 rfl (by decide) rfl ?_
        refine A_goto (tgt := 4) dX8_bits_17 rfl ?_
        refine ih (r &&& (r - 1)) (x + 1) (by omega) (by omega) ?_
        rw [← h3, ← zbc_step r h2 hr, Int32.add_assoc, Int32.add_comm 1]
  exact loop m m 0 (Nat.le_refl _) hm (Int32.zero_add _)
theorem zfw_2 {c : CT} {t : Nat} : ∀ i, (zfw c t i).2 = (match (zfw c t i).1 with | none => 9 | some b => zbc (nI b))
  | 0 => rfl
  | i + 1 => by
    by_cases q : zbc (nI i) < (zfw c t i).2 ∧ zwhen (zmf c (zG1 (nI i)) 20 (cN c)) t = t
    · have e : zfw c t (i + 1) = (some i, zbc (nI i)) := if_pos q
      rw [e]
    · have e : zfw c t (i + 1) = zfw c t i := if_neg q
      rw [e]; exact zfw_2 i
theorem zfw_lt {c : CT} {t : Nat} : ∀ {i b : Nat}, (zfw c t i).1 = some b → b < i
  | 0, b, h => by cases h
  | i + 1, b, h => by
    unfold zfw at h
    split at h
    · cases h; omega
    · have := zfw_lt h; omega
theorem zfw_y9 {c : CT} {t i : Nat} (h1 : zbc (nI i) < (zfw c t i).2) (h2 : zwhen (zmf c (zG1 (nI i)) 20 (cN c)) t = t) : zfw c t (i + 1) = (some i, zbc (nI i)) := if_pos ⟨h1, h2⟩
theorem zfw_n9 {c : CT} {t i : Nat} (h : ¬ zbc (nI i) < (zfw c t i).2 ∨ ¬ zwhen (zmf c (zG1 (nI i)) 20 (cN c)) t = t) : zfw c t (i + 1) = zfw c t i := if_neg (fun q => h.elim (fun z => z q.1) (fun z => z q.2))
set_option maxHeartbeats 1000000 in
set_option maxRecDepth 100000 in
theorem y_warm (l : Launch) (G : az_Gh) (d : Nat) (sh : List az_Sh) (sg : Nat → Nat → Int32) (la : Nat → Nat → Int64) (g : GGM) (σ : SGM) (kp tr : Option Nat) (t : Int32) (hM : az_at sh 60 (lyM 60 kp tr)) (hR : RX g sg la σ kp tr) (hW : WF σ)  : AM l G (d + 32) mX8_warm [.ref 60, .int t] (sh, sg, la) 0 0 (RQ sh g kp tr (.int (q_warm σ t).1) (q_warm σ t).2) := by
  refine az_am knX8_warm (Nat.le_of_ble_eq_true rfl) rfl (fun Post hP => ?_)
  show AW l G mX8_warm (d + 32) (az_F G Post) 0 0 0 [some (.ref 60), some (.int t), none, none] [] (sh, sg, la)
  have hO := hW.1.1.1
  have hL := cW_lv hW.1
  have haw := hW.1.2.2.1
  have h8 := hO.2
  refine B_sg hR.z.symm ?_
  refine A_iload_n dX8_warm_0 rfl rfl ?_
  refine A_i2l dX8_warm_1 ?_
  refine A_lconst (v := 0) dX8_warm_2 (by decide) ?_
  refine A_ldc2 (v := 60) dX8_warm_3 lcX8_291 ?_
  refine A_callS (n := 0) dX8_warm_6 ksX8_in mlX8_91 rfl (c_X8_inI l G (d + 31) sh (mput sg 60 (xN σ)) la t 60 60 (by decide)) (by omega) (Nat.le_refl _) (Nat.le_refl _) rfl (Nat.le_of_ble_eq_true rfl) (fun r S1 hp => ?_)
  obtain ⟨rfl, rfl⟩ := hp
  show AW l G mX8_warm (d + 32) (az_F G Post) 0 0 9 [some (.ref 60), some (.int t), none, none] [.int (b2i (0 ≤ t ∧ t ≤ 60))] (sh, (mput sg 60 (xN σ)), la)
  refine A_if_ne (tgt := 19) dX8_warm_9 rfl (fun h_1 => ?_) (fun h_1 => ?_)
  · skip
    have h_1' := b2i_n.mp h_1
    obtain ⟨t1, ht1, rfl⟩ := nI_ex (m := 60) h_1'
    have hc_t1 : (nI t1).toNatClampNeg = t1 := nI_clamp (by omega)
    refine A_iconst (v := (-1)) dX8_warm_19 (by decide) ?_
    refine A_istore_n (lo2 := [some (.ref 60), some (.int (nI t1)), some (.int (-1)), none]) dX8_warm_20 rfl (by decide) rfl ?_
    refine A_iconst (v := 0) dX8_warm_21 (by decide) ?_
    refine A_istore_n (lo2 := [some (.ref 60), some (.int (nI t1)), some (.int (-1)), some (.int 0)]) dX8_warm_22 rfl (by decide) rfl ?_
    have hp2 := p2_8 h8
    have loop : ∀ (q_i9 i9 : Nat) (u9 : Nat → Nat → Int32) (x2 : Int32), i9 + q_i9 = 2 ^ (cN (xN σ)) → sC sg u9 → x2 = oI (zfw (xN σ) t1 i9).1 → AW l G mX8_warm (d + 32) (az_F G Post) 0 0 23 [some (.ref 60), some (.int (nI t1)), some (.int x2), some (.int (nI i9))] [] (sh, (mput u9 60 (xN σ)), la) := by
      intro q_i9
      induction q_i9 with
      | zero =>
        intro i9 u9 x2 hi_i9 hs9 e_x2
        have hN_i9 : i9 = 2 ^ (cN (xN σ)) := by omega
        subst i9
        refine A_iload_n dX8_warm_23 rfl rfl ?_
        refine A_iconst (v := 1) dX8_warm_24 (by decide) ?_
        refine A_aload_n dX8_warm_25 rfl rfl ?_
        refine B_getV (nI (cN (xN σ))) dX8_warm_26 flX8_88 (hM 0 _ rfl) rfl ((mr_14 _ _ _).trans hO.1) ?_
        refine A_ishl dX8_warm_29 ?_
        refine B_top (sh1 h8) ?_
        refine A_icmp_ge (tgt := 66) dX8_warm_30 rfl (fun h_2 => ?_) (fun h_2 => ?_)
        · skip
          refine A_iload_n dX8_warm_66 rfl rfl ?_
          have hq : (q_warm σ (nI t1)) = (x2, σ) := by
            unfold q_warm
            rw [if_pos h_1', hc_t1, e_x2]
          exact A_iret dX8_warm_67 rfl (hP _ _ (RQ_i hq (hR.fin0 hs9)))
        · skip
          exact absurd (Int32.le_refl _) h_2
      | succ q_i9 ih =>
        intro i9 u9 x2 hi_i9 hs9 e_x2
        refine A_iload_n dX8_warm_23 rfl rfl ?_
        refine A_iconst (v := 1) dX8_warm_24 (by decide) ?_
        refine A_aload_n dX8_warm_25 rfl rfl ?_
        refine B_getV (nI (cN (xN σ))) dX8_warm_26 flX8_88 (hM 0 _ rfl) rfl ((mr_14 _ _ _).trans hO.1) ?_
        refine A_ishl dX8_warm_29 ?_
        refine B_top (sh1 h8) ?_
        refine A_icmp_ge (tgt := 66) dX8_warm_30 rfl (fun h_3 => ?_) (fun h_3 => ?_)
        · skip
          exact absurd h_3 (nI_ge (by omega) (by omega))
        · skip
          refine A_iload_n dX8_warm_33 rfl rfl ?_
          refine A_iconst (v := (-1)) dX8_warm_34 (by decide) ?_
          refine A_icmp_eq (tgt := 49) dX8_warm_35 rfl (fun h_4 => ?_) (fun h_4 => ?_)
          · skip
            have ez2 : (zfw (xN σ) t1 i9).2 = 9 := by rw [zfw_2, (oI_n (fun k hk => by have := zfw_lt hk; omega)).mp (e_x2.symm.trans h_4)]
            refine A_aload_n dX8_warm_49 rfl rfl ?_
            refine A_iload_n dX8_warm_50 rfl rfl ?_
            refine A_iload_n dX8_warm_51 rfl rfl ?_
            refine A_callV (n := 0) dX8_warm_52 kvX8_isJust mlX8_300 rfl (az_rc_obj clX8 (hM 0 _ rfl)) (r_isJust l G (d + 26) sh u9 la kp tr (xN σ) (nI i9) t1 hM hO hL (by omega)) (by omega) (Nat.le_refl _) (Nat.le_refl _) rfl (Nat.le_of_ble_eq_true rfl) (fun r S1 hp => ?_)
            obtain ⟨rfl, u2_5, hs2_5, rfl⟩ := hp
            show AW l G mX8_warm (d + 32) (az_F G Post) 0 0 55 [some (.ref 60), some (.int (nI t1)), some (.int x2), some (.int (nI i9))] [.int (b2i (zwhen (zmf (xN σ) (zG1 (nI i9)) 20 (cN (xN σ))) t1 = t1))] (sh, (mput u2_5 60 (xN σ)), la)
            refine A_if_eq (tgt := 60) dX8_warm_55 rfl (fun h_5 => ?_) (fun h_5 => ?_)
            · skip
              have h_5' := b2i_0.mp h_5
              refine A_iinc (v := nI (i9 + 1)) (lo2 := [some (.ref 60), some (.int (nI t1)), some (.int x2), some (.int (nI (i9 + 1)))]) dX8_warm_60 rfl (nI_1 i9) (by decide) rfl ?_
              refine A_goto (tgt := 23) dX8_warm_63 rfl ?_
              refine ih (i9 + 1) _ _ (by omega) (hs9.tr hs2_5.c) ?_
              · skip
                rw [zfw_n9 (Or.inr h_5')]; exact e_x2
            · skip
              have h_5' := b2i_n.mp h_5
              refine A_iload_n dX8_warm_58 rfl rfl ?_
              refine A_istore_n (lo2 := [some (.ref 60), some (.int (nI t1)), some (.int (nI i9)), some (.int (nI i9))]) dX8_warm_59 rfl (by decide) rfl ?_
              refine A_iinc (v := nI (i9 + 1)) (lo2 := [some (.ref 60), some (.int (nI t1)), some (.int (nI i9)), some (.int (nI (i9 + 1)))]) dX8_warm_60 rfl (nI_1 i9) (by decide) rfl ?_
              refine A_goto (tgt := 23) dX8_warm_63 rfl ?_
              refine ih (i9 + 1) _ _ (by omega) (hs9.tr hs2_5.c) ?_
              · skip
                rw [zfw_y9 (by rw [ez2]; exact zbc_le i9 (by omega)) h_5']; rfl
          · skip
            obtain ⟨b, eb⟩ := oI_s (show ¬ oI (zfw (xN σ) t1 i9).1 = -1 from fun q => h_4 (e_x2.trans q))
            have hb9 := zfw_lt eb
            have e_y : x2 = nI b := by rw [e_x2, eb]; rfl
            have ez2 : (zfw (xN σ) t1 i9).2 = zbc (nI b) := by rw [zfw_2, eb]
            refine az_jn2 e_y (P := fun z => AW l G mX8_warm (d + 32) (az_F G Post) 0 0 38 [some (.ref 60), some (.int (nI t1)), some (.int z), some (.int (nI i9))] [] (sh, (mput u9 60 (xN σ)), la)) ?_
            refine A_iload_n dX8_warm_38 rfl rfl ?_
            refine A_callS (n := 0) dX8_warm_39 ksX8_bits mlX8_297 rfl (c_X8_bits l G (d + 31) sh (mput u9 60 (xN σ)) la i9 (by omega)) (by omega) (Nat.le_refl _) (Nat.le_refl _) rfl (Nat.le_of_ble_eq_true rfl) (fun r S1 hp => ?_)
            obtain ⟨rfl, rfl⟩ := hp
            show AW l G mX8_warm (d + 32) (az_F G Post) 0 0 42 [some (.ref 60), some (.int (nI t1)), some (.int (nI b)), some (.int (nI i9))] [.int (zbc (nI i9))] (sh, (mput u9 60 (xN σ)), la)
            refine A_iload_n dX8_warm_42 rfl rfl ?_
            refine A_callS (n := 0) dX8_warm_43 ksX8_bits mlX8_297 rfl (c_X8_bits l G (d + 31) sh (mput u9 60 (xN σ)) la b (by omega)) (by omega) (Nat.le_refl _) (Nat.le_refl _) rfl (Nat.le_of_ble_eq_true rfl) (fun r S1 hp => ?_)
            obtain ⟨rfl, rfl⟩ := hp
            show AW l G mX8_warm (d + 32) (az_F G Post) 0 0 46 [some (.ref 60), some (.int (nI t1)), some (.int (nI b)), some (.int (nI i9))] [.int (zbc (nI b)), .int (zbc (nI i9))] (sh, (mput u9 60 (xN σ)), la)
            refine A_icmp_ge (tgt := 60) dX8_warm_46 rfl (fun h_6 => ?_) (fun h_6 => ?_)
            · skip
              rw [← e_y]
              refine A_iinc (v := nI (i9 + 1)) (lo2 := [some (.ref 60), some (.int (nI t1)), some (.int x2), some (.int (nI (i9 + 1)))]) dX8_warm_60 rfl (nI_1 i9) (by decide) rfl ?_
              refine A_goto (tgt := 23) dX8_warm_63 rfl ?_
              refine ih (i9 + 1) _ _ (by omega) hs9 ?_
              · skip
                rw [zfw_n9 (Or.inl (by rw [ez2]; exact Int32.not_lt.mpr h_6))]; exact e_x2
            · skip
              refine A_aload_n dX8_warm_49 rfl rfl ?_
              refine A_iload_n dX8_warm_50 rfl rfl ?_
              refine A_iload_n dX8_warm_51 rfl rfl ?_
              refine A_callV (n := 0) dX8_warm_52 kvX8_isJust mlX8_300 rfl (az_rc_obj clX8 (hM 0 _ rfl)) (r_isJust l G (d + 26) sh u9 la kp tr (xN σ) (nI i9) t1 hM hO hL (by omega)) (by omega) (Nat.le_refl _) (Nat.le_refl _) rfl (Nat.le_of_ble_eq_true rfl) (fun r S1 hp => ?_)
              obtain ⟨rfl, u2_6, hs2_6, rfl⟩ := hp
              show AW l G mX8_warm (d + 32) (az_F G Post) 0 0 55 [some (.ref 60), some (.int (nI t1)), some (.int (nI b)), some (.int (nI i9))] [.int (b2i (zwhen (zmf (xN σ) (zG1 (nI i9)) 20 (cN (xN σ))) t1 = t1))] (sh, (mput u2_6 60 (xN σ)), la)
              refine A_if_eq (tgt := 60) dX8_warm_55 rfl (fun h_7 => ?_) (fun h_7 => ?_)
              · skip
                have h_7' := b2i_0.mp h_7
                rw [← e_y]
                refine A_iinc (v := nI (i9 + 1)) (lo2 := [some (.ref 60), some (.int (nI t1)), some (.int x2), some (.int (nI (i9 + 1)))]) dX8_warm_60 rfl (nI_1 i9) (by decide) rfl ?_
                refine A_goto (tgt := 23) dX8_warm_63 rfl ?_
                refine ih (i9 + 1) _ _ (by omega) (hs9.tr hs2_6.c) ?_
                · skip
                  rw [zfw_n9 (Or.inr h_7')]; exact e_x2
              · skip
                have h_7' := b2i_n.mp h_7
                refine A_iload_n dX8_warm_58 rfl rfl ?_
                refine A_istore_n (lo2 := [some (.ref 60), some (.int (nI t1)), some (.int (nI i9)), some (.int (nI i9))]) dX8_warm_59 rfl (by decide) rfl ?_
                refine A_iinc (v := nI (i9 + 1)) (lo2 := [some (.ref 60), some (.int (nI t1)), some (.int (nI i9)), some (.int (nI (i9 + 1)))]) dX8_warm_60 rfl (nI_1 i9) (by decide) rfl ?_
                refine A_goto (tgt := 23) dX8_warm_63 rfl ?_
                refine ih (i9 + 1) _ _ (by omega) (hs9.tr hs2_6.c) ?_
                · skip
                  rw [zfw_y9 (by rw [ez2]; exact Int32.not_le.mp h_6) h_7']; rfl
    exact loop (2 ^ (cN (xN σ))) 0 _ _ (by omega) (sC.rf sg) (rfl)
  · skip
    have h_1' := b2i_0.mp h_1
    refine A_aload_n dX8_warm_12 rfl rfl ?_
    refine A_bipush (v := (-2)) dX8_warm_13 (by decide) ?_
    refine A_callV (n := 0) dX8_warm_15 kvX8_refuse mlX8_101 rfl (az_rc_obj clX8 (hM 0 _ rfl)) (c_X8_refuse l G (d + 31) sh (mput sg 60 (xN σ)) la kp tr (-2) 0 hM (by decide) (by decide)) (by omega) (Nat.le_refl _) (Nat.le_refl _) rfl (Nat.le_of_ble_eq_true rfl) (fun r S1 hp => ?_)
    obtain ⟨rfl, rfl⟩ := hp
    show AW l G mX8_warm (d + 32) (az_F G Post) 0 0 18 [some (.ref 60), some (.int t), none, none] [.int (-2)] (sh, (az_w (mput sg 60 (xN σ)) 76 (0 + 2) ((mput sg 60 (xN σ)) 76 (0 + 2) + 1)), la)
    have hq : (q_warm σ t) = ((-2), (rfs σ 0)) := by
      unfold q_warm
      try simp only [h_1', and_true, true_and, and_false, false_and, and_self, or_true, true_or, or_false, false_or, not_true_eq_false, not_false_eq_true, if_true, if_false, ite_true, ite_false, decide_true, decide_false, reduceIte]
      first | done | rfl
    exact A_iret dX8_warm_18 rfl (hP _ _ (RQ_i hq ((hR.fin0 (sC.rf sg)).ref (k := 0) (by decide))))
