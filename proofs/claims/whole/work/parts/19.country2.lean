theorem zO {s : Nat → Nat → Int32} {o : Nat} {c : CT} (h : cOk c) : cOk (ct (zput s o c) o) := by rw [ct_zput]; exact h
theorem zN {s : Nat → Nat → Int32} {o : Nat} {c : CT} {p : Nat} (h : p < cN c) : p < cN (ct (zput s o c) o) := by rw [ct_zput]; exact h
theorem z_X2_hasOne (l : Launch) (G : az_Gh) (d : Nat) (sh : List az_Sh) (sg : Nat → Nat → Int32) (la : Nat → Nat → Int64) (o : Nat) (c : CT) (i : Int32) (hC : az_at sh o (lyC o)) : FM l G d mX2_hasOne [.ref o, .int i] (sh, zput sg o c, la) (some (.int (b2i (0 ≤ i ∧ i < cPp c)))) (sh, zput sg o c, la) := by
  have h := c_X2_hasOne l G d sh (zput sg o c) la o i hC
  simp only [zr_5] at h
  exact h
theorem z_X2_hasOne_in (l : Launch) (G : az_Gh) (d : Nat) (sh : List az_Sh) (sg : Nat → Nat → Int32) (la : Nat → Nat → Int64) (o : Nat) (c : CT) (p : Nat) (hC : az_at sh o (lyC o)) (hO : cOk c) (hp : p < cN c) : FM l G d mX2_hasOne [.ref o, .int (nI p)] (sh, zput sg o c, la) (some (.int 1)) (sh, zput sg o c, la) := c_X2_hasOne_in l G d sh (zput sg o c) la o p hC (zO hO) (zN hp)
theorem z_X2_hasOne_no (l : Launch) (G : az_Gh) (d : Nat) (sh : List az_Sh) (sg : Nat → Nat → Int32) (la : Nat → Nat → Int64) (o : Nat) (c : CT) (p : Nat) (hC : az_at sh o (lyC o)) (hO : cOk c) (h31 : p < 2 ^ 31) (hp : ¬ p < cN c) : FM l G d mX2_hasOne [.ref o, .int (nI p)] (sh, zput sg o c, la) (some (.int 0)) (sh, zput sg o c, la) := by
  have h := z_X2_hasOne l G d sh sg la o c (nI p) hC
  have h5 := hO.1
  rw [← b2i_f (fun q => by rw [h5] at q; exact absurd q.2 (nI_nlt (by omega) h31))] at h
  exact h
theorem z_X2_hasOne_m1 (l : Launch) (G : az_Gh) (d : Nat) (sh : List az_Sh) (sg : Nat → Nat → Int32) (la : Nat → Nat → Int64) (o : Nat) (c : CT) (hC : az_at sh o (lyC o)) : FM l G d mX2_hasOne [.ref o, .int (-1)] (sh, zput sg o c, la) (some (.int 0)) (sh, zput sg o c, la) := c_X2_hasOne_m1 l G d sh (zput sg o c) la o hC
theorem z_X2_isFull (l : Launch) (G : az_Gh) (d : Nat) (sh : List az_Sh) (sg : Nat → Nat → Int32) (la : Nat → Nat → Int64) (o : Nat) (c : CT) (hC : az_at sh o (lyC o)) : FM l G d mX2_isFull [.ref o] (sh, zput sg o c, la) (some (.int (b2i (8 ≤ cPp c)))) (sh, zput sg o c, la) := by
  have h := c_X2_isFull l G d sh (zput sg o c) la o hC
  simp only [zr_5] at h
  exact h
theorem z_X2_coldAs (l : Launch) (G : az_Gh) (d : Nat) (sh : List az_Sh) (sg : Nat → Nat → Int32) (la : Nat → Nat → Int64) (o : Nat) (c : CT) (p : Nat) (t : Int32) (hC : az_at sh o (lyC o)) (hO : cOk c) (hp : p < cN c) : FM l G (d + 1) mX2_coldAs [.ref o, .int t, .int (nI p)] (sh, zput sg o c, la) (some (.int (zcT t c p))) (sh, zput sg o c, la) := by
  have h := c_X2_coldAs l G d sh (zput sg o c) la o p t hC (zO hO) (zN hp)
  rw [ct_zput] at h
  exact h
theorem z_X2_limitBy (l : Launch) (G : az_Gh) (d : Nat) (sh : List az_Sh) (sg : Nat → Nat → Int32) (la : Nat → Nat → Int64) (o : Nat) (c : CT) (p : Nat) (t : Int32) (hC : az_at sh o (lyC o)) (hO : cOk c) (hp : p < cN c) : FM l G (d + 1) mX2_limitBy [.ref o, .int t, .int (nI p)] (sh, zput sg o c, la) (some (.int (zl c t p))) (sh, zput sg o c, la) := by
  have h := c_X2_limitBy l G d sh (zput sg o c) la o p t hC (zO hO) (zN hp)
  rw [ct_zput] at h
  exact h
theorem z_X2_isHeard (l : Launch) (G : az_Gh) (d : Nat) (sh : List az_Sh) (sg : Nat → Nat → Int32) (la : Nat → Nat → Int64) (o : Nat) (c : CT) (p : Nat) (hC : az_at sh o (lyC o)) (hO : cOk c) (hp : p < cN c) : FM l G (d + 2) mX2_isHeard [.ref o, .int (nI p)] (sh, zput sg o c, la) (some (.int (b2i (zsp c p = true)))) (sh, zput sg o c, la) := by
  have h := c_X2_isHeard l G d sh (zput sg o c) la o p hC (zO hO) (zN hp)
  rw [ct_zput] at h
  exact h
set_option maxHeartbeats 600000 in
set_option maxRecDepth 100000 in
theorem z_X2_isHeard_m1 (l : Launch) (G : az_Gh) (d : Nat) (sh : List az_Sh) (sg : Nat → Nat → Int32) (la : Nat → Nat → Int64) (o : Nat) (c : CT)  (hC : az_at sh o (lyC o))  : FM l G (d + 2) mX2_isHeard [.ref o, .int (-1)] (sh, (zput sg o c), la) (some (.int 0)) (sh, (zput sg o c), la) := by
  refine az_fm knX2_isHeard (Nat.le_of_ble_eq_true rfl) rfl (fun Post hP => ?_)
  show AW l G mX2_isHeard (d + 2) (az_F G Post) 0 0 0 [some (.ref o), some (.int (-1))] [] (sh, (zput sg o c), la)
  refine A_aload_n dX2_isHeard_0 rfl rfl ?_
  refine A_iload_n dX2_isHeard_1 rfl rfl ?_
  refine A_callV (n := 0) dX2_isHeard_2 kvX2_hasOne mlX2_69 rfl (az_rc_obj clX2 (hC 0 _ rfl)) (z_X2_hasOne_m1 l G (d + 1) sh sg la o c hC) (by omega) (Nat.le_refl _) (Nat.le_refl _) rfl (Nat.le_of_ble_eq_true rfl) (fun r S1 hp => ?_)
  obtain ⟨rfl, rfl⟩ := hp
  show AW l G mX2_isHeard (d + 2) (az_F G Post) 0 0 5 [some (.ref o), some (.int (-1))] [.int 0] (sh, (zput sg o c), la)
  refine A_if_eq (tgt := 37) dX2_isHeard_5 rfl (fun h_1 => ?_) (fun h_1 => ?_)
  · skip
    refine A_iconst (v := 0) dX2_isHeard_37 (by decide) ?_
    refine A_zret dX2_isHeard_38 rfl (rfl) (az_pi hP ?_ (rfl))
    rfl
  · skip
    exact absurd (by decide) h_1
theorem z_X2_isHeardO (l : Launch) (G : az_Gh) (d : Nat) (sh : List az_Sh) (sg : Nat → Nat → Int32) (la : Nat → Nat → Int64) (o : Nat) (c : CT) (q : Option Nat) (hC : az_at sh o (lyC o)) (hO : cOk c) (hq : ∀ k, q = some k → k < cN c) : FM l G (d + 2) mX2_isHeard [.ref o, .int (oI q)] (sh, zput sg o c, la) (some (.int (b2i (zspO c q = true)))) (sh, zput sg o c, la) := by
  cases q with
  | none =>
    have h := z_X2_isHeard_m1 l G d sh sg la o c hC
    rw [show b2i (zspO c none = true) = 0 from (b2i_f (fun h => by simp [zspO] at h)).symm]
    exact h
  | some k => exact z_X2_isHeard l G d sh sg la o c k hC hO (hq k rfl)
def zmost (c : CT) (i : Nat) : Int32 := match zb c i with
  | none => -1
  | some k => zc c k
def cPos (c : CT) : Prop := ∀ p, p < cN c → 0 ≤ zc c p
theorem zb_lt (c : CT) : ∀ (i k : Nat), zb c i = some k → k < i
  | 0, k, h => by cases h
  | i + 1, k, h => by
    unfold zb at h
    split at h
    · have := zb_lt c i k h; omega
    · split at h
      · cases h; omega
      · rename_i k9 hk
        have := zb_lt c i k9 hk
        split at h
        · cases h; omega
        · cases h; omega
theorem zmost_ge {c : CT} (hP : cPos c) {i : Nat} (hi : i ≤ cN c) : -1 ≤ zmost c i := by
  unfold zmost
  split
  · exact Int32.le_refl _
  · rename_i k hk
    exact Int32.le_trans (by decide) (hP k (by have := zb_lt c i k hk; omega))
theorem zb_away {c : CT} {i : Nat} (h : nI i = cAway c) : zb c (i + 1) = zb c i := by show (if _ then _ else _) = _; rw [if_pos h]
theorem zb_up {c : CT} (hP : cPos c) {i : Nat} (hi : i < cN c) (h : ¬ nI i = cAway c) (hm : zmost c i < zc c i) : zb c (i + 1) = some i := by
  show (if _ then _ else _) = _
  rw [if_neg h]
  unfold zmost at hm
  split
  · rfl
  · rename_i k hk
    rw [hk] at hm
    rw [if_pos hm]
theorem zb_dn {c : CT} (hP : cPos c) {i : Nat} (hi : i < cN c) (h : ¬ nI i = cAway c) (hm : ¬ zmost c i < zc c i) : zb c (i + 1) = zb c i := by
  show (if _ then _ else _) = _
  rw [if_neg h]
  unfold zmost at hm
  split
  · rename_i hk
    rw [hk] at hm
    exact absurd (show (-1 : Int32) < zc c i from Int32.lt_of_lt_of_le (by decide) (hP i hi)) hm
  · rename_i k hk
    rw [hk] at hm
    rw [if_neg hm, hk]
theorem zmost_eq {c : CT} {i j : Nat} (h : zb c j = zb c i) : zmost c j = zmost c i := by unfold zmost; rw [h]
theorem zmost_some {c : CT} {i k : Nat} (h : zb c i = some k) : zmost c i = zc c k := by unfold zmost; rw [h]
set_option maxHeartbeats 600000 in
set_option maxRecDepth 100000 in
theorem z_X2_coldestOne (l : Launch) (G : az_Gh) (d : Nat) (sh : List az_Sh) (sg : Nat → Nat → Int32) (la : Nat → Nat → Int64) (o : Nat) (c : CT)  (hC : az_at sh o (lyC o)) (hO : cOk c) (hz : cPos c) : FM l G (d + 2) mX2_coldestOne [.ref o] (sh, (zput sg o c), la) (some (.int (oI (zbest c)))) (sh, (zput sg o c), la) := by
  refine az_fm knX2_coldestOne (Nat.le_of_ble_eq_true rfl) rfl (fun Post hP => ?_)
  show AW l G mX2_coldestOne (d + 2) (az_F G Post) 0 0 0 [some (.ref o), none, none, none, none] [] (sh, (zput sg o c), la)
  have h8 := hO.2
  refine A_iconst (v := (-1)) dX2_coldestOne_0 (by decide) ?_
  refine A_istore_n (lo2 := [some (.ref o), some (.int (-1)), none, none, none]) dX2_coldestOne_1 rfl (by decide) rfl ?_
  refine A_iconst (v := (-1)) dX2_coldestOne_2 (by decide) ?_
  refine A_istore_n (lo2 := [some (.ref o), some (.int (-1)), some (.int (-1)), none, none]) dX2_coldestOne_3 rfl (by decide) rfl ?_
  refine A_iconst (v := 0) dX2_coldestOne_4 (by decide) ?_
  refine A_istore_n (lo2 := [some (.ref o), some (.int (-1)), some (.int (-1)), some (.int 0), none]) dX2_coldestOne_5 rfl (by decide) rfl ?_
  have loop : ∀ (q9 i9 : Nat) (x1 : Int32) (x2 : Int32), i9 + q9 = cN c → x1 = oI (zb c i9) → x2 = zmost c i9 → AW l G mX2_coldestOne (d + 2) (az_F G Post) 0 0 6 [some (.ref o), some (.int x1), some (.int x2), some (.int (nI i9)), none] [] (sh, (zput sg o c), la) := by
    intro q9
    induction q9 with
    | zero =>
      intro i9 x1 x2 hi9  e_x1 e_x2
      have hi8 : i9 = cN c := by omega
      subst hi8
      refine A_iload_n dX2_coldestOne_6 rfl rfl ?_
      refine A_aload_n dX2_coldestOne_7 rfl rfl ?_
      refine B_getV (nI (cN c)) dX2_coldestOne_8 flX2_27 (hC 0 _ rfl) rfl ((zr_5 _ _ _).trans hO.1) ?_
      refine A_icmp_ge (tgt := 56) dX2_coldestOne_11 rfl (fun h_1 => ?_) (fun h_1 => ?_)
      · skip
        refine A_iload_n dX2_coldestOne_56 rfl rfl ?_
        refine A_iret dX2_coldestOne_57 rfl (az_pi hP ?_ (rfl))
        exact e_x1
      · skip
        exact absurd (Int32.le_refl _) h_1
    | succ q9 ih =>
      intro i9 x1 x2 hi9  e_x1 e_x2
      refine A_iload_n dX2_coldestOne_6 rfl rfl ?_
      refine A_aload_n dX2_coldestOne_7 rfl rfl ?_
      refine B_getV (nI (cN c)) dX2_coldestOne_8 flX2_27 (hC 0 _ rfl) rfl ((zr_5 _ _ _).trans hO.1) ?_
      refine A_icmp_ge (tgt := 56) dX2_coldestOne_11 rfl (fun h_2 => ?_) (fun h_2 => ?_)
      · skip
        exact absurd h_2 (nI_ge (by omega) (by omega))
      · skip
        refine A_iload_n dX2_coldestOne_14 rfl rfl ?_
        refine A_aload_n dX2_coldestOne_15 rfl rfl ?_
        refine B_getV (cAway c) dX2_coldestOne_16 flX2_52 (hC 0 _ rfl) rfl (zr_13 _ _ _) ?_
        refine A_icmp_ne (tgt := 26) dX2_coldestOne_19 rfl (fun h_3 => ?_) (fun h_3 => ?_)
        · skip
          refine A_aload_n dX2_coldestOne_26 rfl rfl ?_
          refine A_aload_n dX2_coldestOne_27 rfl rfl ?_
          refine B_getR (r := (o + 1)) dX2_coldestOne_28 flX2_9 (hC 0 _ rfl) rfl ?_
          refine A_iload_n dX2_coldestOne_31 rfl rfl ?_
          refine B_ialdV (i := i9) (cKd c i9) dX2_coldestOne_32 (hC 1 _ rfl) (by decide) (rfl) (by omega) (ze_1 _ _ _ _) ?_
          refine A_iload_n dX2_coldestOne_33 rfl rfl ?_
          refine A_callV (n := 0) dX2_coldestOne_34 kvX2_coldAs mlX2_79 rfl (az_rc_obj clX2 (hC 0 _ rfl)) (z_X2_coldAs l G d sh sg la o c i9 (cKd c i9) hC hO (by omega)) (by omega) (Nat.le_refl _) (Nat.le_refl _) rfl (Nat.le_of_ble_eq_true rfl) (fun r S1 hp => ?_)
          obtain ⟨rfl, rfl⟩ := hp
          show AW l G mX2_coldestOne (d + 2) (az_F G Post) 0 0 37 [some (.ref o), some (.int x1), some (.int x2), some (.int (nI i9)), none] [.int (zcT (cKd c i9) c i9)] (sh, (zput sg o c), la)
          refine A_istore (lo2 := [some (.ref o), some (.int x1), some (.int x2), some (.int (nI i9)), some (.int (zcT (cKd c i9) c i9))]) dX2_coldestOne_37 (by decide) rfl ?_
          refine A_iload dX2_coldestOne_39 rfl ?_
          refine A_iload_n dX2_coldestOne_41 rfl rfl ?_
          refine A_icmp_le (tgt := 50) dX2_coldestOne_42 rfl (fun h_4 => ?_) (fun h_4 => ?_)
          · skip
            refine A_iinc (v := nI (i9 + 1)) (lo2 := [some (.ref o), some (.int x1), some (.int x2), some (.int (nI (i9 + 1))), some (.int (zcT (cKd c i9) c i9))]) dX2_coldestOne_50 rfl (nI_1 i9) (by decide) rfl ?_
            refine A_goto (tgt := 6) dX2_coldestOne_53 rfl ?_
            refine A_forget (lo2 := [some (.ref o), some (.int x1), some (.int x2), some (.int (nI (i9 + 1))), none]) ⟨rfl, rfl, rfl, rfl, trivial⟩ ?_
            refine ih (i9 + 1) _ _ (by omega) ?_ ?_
            · skip
              rw [zb_dn hz (by omega) h_3 (by rw [← e_x2]; exact Int32.not_lt.mpr h_4)]; exact e_x1
            · skip
              rw [e_x2]; exact (zmost_eq (zb_dn hz (by omega) h_3 (by rw [← e_x2]; exact Int32.not_lt.mpr h_4))).symm
          · skip
            refine A_iload dX2_coldestOne_45 rfl ?_
            refine A_istore_n (lo2 := [some (.ref o), some (.int x1), some (.int (zcT (cKd c i9) c i9)), some (.int (nI i9)), some (.int (zcT (cKd c i9) c i9))]) dX2_coldestOne_47 rfl (by decide) rfl ?_
            refine A_iload_n dX2_coldestOne_48 rfl rfl ?_
            refine A_istore_n (lo2 := [some (.ref o), some (.int (nI i9)), some (.int (zcT (cKd c i9) c i9)), some (.int (nI i9)), some (.int (zcT (cKd c i9) c i9))]) dX2_coldestOne_49 rfl (by decide) rfl ?_
            refine A_iinc (v := nI (i9 + 1)) (lo2 := [some (.ref o), some (.int (nI i9)), some (.int (zcT (cKd c i9) c i9)), some (.int (nI (i9 + 1))), some (.int (zcT (cKd c i9) c i9))]) dX2_coldestOne_50 rfl (nI_1 i9) (by decide) rfl ?_
            refine A_goto (tgt := 6) dX2_coldestOne_53 rfl ?_
            refine A_forget (lo2 := [some (.ref o), some (.int (nI i9)), some (.int (zcT (cKd c i9) c i9)), some (.int (nI (i9 + 1))), none]) ⟨rfl, rfl, rfl, rfl, trivial⟩ ?_
            refine ih (i9 + 1) _ _ (by omega) ?_ ?_
            · skip
              rw [zb_up hz (by omega) h_3 (by rw [← e_x2]; exact Int32.not_le.mp h_4)]; rfl
            · skip
              exact (zmost_some (zb_up hz (by omega) h_3 (by rw [← e_x2]; exact Int32.not_le.mp h_4))).symm
        · skip
          refine A_iconst (v := (-1)) dX2_coldestOne_22 (by decide) ?_
          refine A_goto (tgt := 37) dX2_coldestOne_23 rfl ?_
          refine A_istore (lo2 := [some (.ref o), some (.int x1), some (.int x2), some (.int (nI i9)), some (.int (-1))]) dX2_coldestOne_37 (by decide) rfl ?_
          refine A_iload dX2_coldestOne_39 rfl ?_
          refine A_iload_n dX2_coldestOne_41 rfl rfl ?_
          refine A_icmp_le (tgt := 50) dX2_coldestOne_42 rfl (fun h_5 => ?_) (fun h_5 => ?_)
          · skip
            refine A_iinc (v := nI (i9 + 1)) (lo2 := [some (.ref o), some (.int x1), some (.int x2), some (.int (nI (i9 + 1))), some (.int (-1))]) dX2_coldestOne_50 rfl (nI_1 i9) (by decide) rfl ?_
            refine A_goto (tgt := 6) dX2_coldestOne_53 rfl ?_
            refine A_forget (lo2 := [some (.ref o), some (.int x1), some (.int x2), some (.int (nI (i9 + 1))), none]) ⟨rfl, rfl, rfl, rfl, trivial⟩ ?_
            refine ih (i9 + 1) _ _ (by omega) ?_ ?_
            · skip
              rw [e_x1, zb_away h_3]
            · skip
              rw [e_x2]; exact (zmost_eq (zb_away h_3)).symm
          · skip
            exact absurd (by rw [e_x2]; exact zmost_ge hz (by omega)) h_5
  exact loop (cN c) 0 _ _ (by omega) (rfl) (rfl)
