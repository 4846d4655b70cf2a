set_option maxHeartbeats 600000 in
set_option maxRecDepth 100000 in
theorem c_X8_refuse (l : Launch) (G : az_Gh) (d : Nat) (sh : List az_Sh) (sg : Nat → Nat → Int32) (la : Nat → Nat → Int64) (kp tr : Option Nat) (f : Int32) (k : Nat) (hM : az_at sh 60 (lyM 60 kp tr)) (hk : k < 5) (hf : -f = nI (k + 2)) : FM l G (d) mX8_refuse [.ref 60, .int f] (sh, sg, la) (some (.int f)) (sh, az_w sg 76 (k + 2) (sg 76 (k + 2) + 1), la) := by
  refine az_fm knX8_refuse (Nat.le_of_ble_eq_true rfl) rfl (fun Post hP => ?_)
  show AW l G mX8_refuse (d) (az_F G Post) 0 0 0 [some (.ref 60), some (.int f)] [] (sh, sg, la)
  refine A_aload_n dX8_refuse_0 rfl rfl ?_
  refine B_getR (r := 76) dX8_refuse_1 flX8_34 (hM 0 _ rfl) rfl ?_
  refine A_iload_n dX8_refuse_4 rfl rfl ?_
  refine A_ineg dX8_refuse_5 ?_
  refine B_top hf ?_
  refine A_dup2 dX8_refuse_6 rfl rfl ?_
  refine B_iald (i := (k + 2)) dX8_refuse_7 (hM 16 _ rfl) (by decide) (rfl) (by omega) ?_
  refine A_iconst (v := 1) dX8_refuse_8 (by decide) ?_
  refine A_iadd dX8_refuse_9 ?_
  refine B_iast (i := (k + 2)) dX8_refuse_10 (hM 16 _ rfl) (by decide) (rfl) (by omega) ?_
  refine A_iload_n dX8_refuse_11 rfl rfl ?_
  refine A_iret dX8_refuse_12 rfl (az_pi hP ?_ (rfl))
  rfl
def rTag (f : SHF) : Int32 := if fSh f = -1 then (if fSo f = -1 then 0 else 1) else 2
theorem rTag_2 {f : SHF} : rTag f = 2 ↔ ¬ fSh f = -1 := by
  unfold rTag
  by_cases h : fSh f = -1
  · rw [if_pos h]
    by_cases h2 : fSo f = -1
    · rw [if_pos h2]; exact ⟨fun q => absurd q (by decide), fun q => absurd h q⟩
    · rw [if_neg h2]; exact ⟨fun q => absurd q (by decide), fun q => absurd h q⟩
  · rw [if_neg h]; exact ⟨fun _ => h, fun _ => rfl⟩
theorem rTag_0 {f : SHF} : rTag f = 0 ↔ (fSo f = -1 ∧ fSh f = -1) := by
  unfold rTag
  by_cases h : fSh f = -1
  · rw [if_pos h]
    by_cases h2 : fSo f = -1
    · rw [if_pos h2]; exact ⟨fun _ => ⟨h2, h⟩, fun _ => rfl⟩
    · rw [if_neg h2]; exact ⟨fun q => absurd q (by decide), fun q => absurd q.1 h2⟩
  · rw [if_neg h]; exact ⟨fun q => absurd q (by decide), fun q => absurd q.2 h⟩
theorem rTag_1 {f : SHF} : rTag f = 1 ↔ (¬ fSo f = -1 ∧ fSh f = -1) := by
  unfold rTag
  by_cases h : fSh f = -1
  · rw [if_pos h]
    by_cases h2 : fSo f = -1
    · rw [if_pos h2]; exact ⟨fun q => absurd q (by decide), fun q => absurd h2 q.1⟩
    · rw [if_neg h2]; exact ⟨fun _ => ⟨h2, h⟩, fun _ => rfl⟩
  · rw [if_neg h]; exact ⟨fun q => absurd q (by decide), fun q => absurd q.2 h⟩
theorem RX.tag {g : GGM} {sg : Nat → Nat → Int32} {la : Nat → Nat → Int64} {σ : SGM} {kp tr : Option Nat} (h : RX g sg la σ kp tr) {s : Nat} (hs : s < 8) : sg 61 s = rTag (xS σ s) := (h.sh hs).1
theorem zsm_r {s : Nat} (h : s < 8) : ([some (some (60 + 5)), some (some (60 + 6)), some (some (60 + 7)), some (some (60 + 8)), some (some (60 + 9)), some (some (60 + 10)), some (some (60 + 11)), some (some (60 + 12))] : List (Option (Option Nat)))[s]? = some (some (some (65 + s))) := by
  have hk : s = 0 ∨ s = 1 ∨ s = 2 ∨ s = 3 ∨ s = 4 ∨ s = 5 ∨ s = 6 ∨ s = 7 := by omega
  rcases hk with rfl | rfl | rfl | rfl | rfl | rfl | rfl | rfl <;> rfl
theorem lyM_row {sh : List az_Sh} {kp tr : Option Nat} (h : az_at sh 60 (lyM 60 kp tr)) {s : Nat} (hs : s < 8) : sh[65 + s]? = some (101, 40, []) := by
  have hk : s = 0 ∨ s = 1 ∨ s = 2 ∨ s = 3 ∨ s = 4 ∨ s = 5 ∨ s = 6 ∨ s = 7 := by omega
  rcases hk with rfl | rfl | rfl | rfl | rfl | rfl | rfl | rfl
  · exact h 5 _ rfl
  · exact h 6 _ rfl
  · exact h 7 _ rfl
  · exact h 8 _ rfl
  · exact h 9 _ rfl
  · exact h 10 _ rfl
  · exact h 11 _ rfl
  · exact h 12 _ rfl
theorem lyM_row' {sh : List az_Sh} {kp tr : Option Nat} (h : az_at sh 60 (lyM 60 kp tr)) {s : Nat} (hs : s < 8) : az_at sh (65 + s) [(101, 40, [])] := by
  intro k q hk
  cases k with
  | zero => cases hk; exact lyM_row h hs
  | succ k => cases k <;> cases hk
theorem zfill_w (f : Nat → Nat → Int64) (k i : Nat) (x : Int64) : az_wL (va_up f k (zfill (f k) i x)) k i x = va_up f k (zfill (f k) (i + 1) x) := by
  rw [az_wL_up]
  congr 1
  funext j
  unfold zfill
  by_cases h : j = i
  · subst h; rw [az_up_self, if_pos (by omega)]
  · rw [az_up_ne h]
    by_cases h2 : j < i
    · rw [if_pos h2, if_pos (by omega)]
    · rw [if_neg h2, if_neg (by omega)]
set_option maxHeartbeats 1000000 in
set_option maxRecDepth 100000 in
theorem y_row (l : Launch) (G : az_Gh) (d : Nat) (sh : List az_Sh) (sg : Nat → Nat → Int32) (la : Nat → Nat → Int64) (g : GGM) (σ : SGM) (kp tr : Option Nat) (s t n : Int32) (hM : az_at sh 60 (lyM 60 kp tr)) (hR : RX g sg la σ kp tr) (hW : WF σ)  : AM l G (d + 32) mX8_row [.ref 60, .int s, .int t, .int n] (sh, sg, la) 0 0 (RQ sh g kp tr (.int (q_row σ s t n).1) (q_row σ s t n).2) := by
  refine az_am knX8_row (Nat.le_of_ble_eq_true rfl) rfl (fun Post hP => ?_)
  show AW l G mX8_row (d + 32) (az_F G Post) 0 0 0 [some (.ref 60), some (.int s), some (.int t), some (.int n), none] [] (sh, sg, la)
  have hO := hW.1.1.1
  have hL := cW_lv hW.1
  have haw := hW.1.2.2.1
  have h8 := hO.2
  refine A_iload_n dX8_row_0 rfl rfl ?_
  refine A_i2l dX8_row_1 ?_
  refine A_lconst (v := 0) dX8_row_2 (by decide) ?_
  refine A_ldc2 (v := 7) dX8_row_3 lcX8_95 ?_
  refine A_callS (n := 0) dX8_row_6 ksX8_in mlX8_91 rfl (c_X8_inI l G (d + 31) sh sg la s 7 7 (by decide)) (by omega) (Nat.le_refl _) (Nat.le_refl _) rfl (Nat.le_of_ble_eq_true rfl) (fun r S1 hp => ?_)
  obtain ⟨rfl, rfl⟩ := hp
  show AW l G mX8_row (d + 32) (az_F G Post) 0 0 9 [some (.ref 60), some (.int s), some (.int t), some (.int n), none] [.int (b2i (0 ≤ s ∧ s ≤ 7))] (sh, sg, la)
  refine A_if_eq (tgt := 36) dX8_row_9 rfl (fun h_1 => ?_) (fun h_1 => ?_)
  · skip
    have h_1' := b2i_0.mp h_1
    refine A_aload_n dX8_row_36 rfl rfl ?_
    refine A_bipush (v := (-2)) dX8_row_37 (by decide) ?_
    refine A_callV (n := 0) dX8_row_39 kvX8_refuse mlX8_101 rfl (az_rc_obj clX8 (hM 0 _ rfl)) (c_X8_refuse l G (d + 31) sh sg la kp tr (-2) 0 hM (by decide) (by decide)) (by omega) (Nat.le_refl _) (Nat.le_refl _) rfl (Nat.le_of_ble_eq_true rfl) (fun r S1 hp => ?_)
    obtain ⟨rfl, rfl⟩ := hp
    show AW l G mX8_row (d + 32) (az_F G Post) 0 0 42 [some (.ref 60), some (.int s), some (.int t), some (.int n), none] [.int (-2)] (sh, (az_w sg 76 (0 + 2) (sg 76 (0 + 2) + 1)), la)
    have hq : (q_row σ s t n) = ((-2), (rfs σ 0)) := by
      unfold q_row
      try simp only [h_1', and_true, true_and, and_false, false_and, and_self, or_true, true_or, or_false, false_or, not_true_eq_false, not_false_eq_true, if_true, if_false, ite_true, ite_false, decide_true, decide_false, reduceIte]
      first | done | rfl
    exact A_iret dX8_row_42 rfl (hP _ _ (RQ_i hq (hR.ref (k := 0) (by decide))))
  · skip
    have h_1' := b2i_n.mp h_1
    refine A_iload_n dX8_row_12 rfl rfl ?_
    refine A_i2l dX8_row_13 ?_
    refine A_lconst (v := 0) dX8_row_14 (by decide) ?_
    refine A_ldc2 (v := 4) dX8_row_15 lcX8_97 ?_
    refine A_callS (n := 0) dX8_row_18 ksX8_in mlX8_91 rfl (c_X8_inI l G (d + 31) sh sg la t 4 4 (by decide)) (by omega) (Nat.le_refl _) (Nat.le_refl _) rfl (Nat.le_of_ble_eq_true rfl) (fun r S1 hp => ?_)
    obtain ⟨rfl, rfl⟩ := hp
    show AW l G mX8_row (d + 32) (az_F G Post) 0 0 21 [some (.ref 60), some (.int s), some (.int t), some (.int n), none] [.int (b2i (0 ≤ t ∧ t ≤ 4))] (sh, sg, la)
    refine A_if_eq (tgt := 36) dX8_row_21 rfl (fun h_2 => ?_) (fun h_2 => ?_)
    · skip
      have h_2' := b2i_0.mp h_2
      refine A_aload_n dX8_row_36 rfl rfl ?_
      refine A_bipush (v := (-2)) dX8_row_37 (by decide) ?_
      refine A_callV (n := 0) dX8_row_39 kvX8_refuse mlX8_101 rfl (az_rc_obj clX8 (hM 0 _ rfl)) (c_X8_refuse l G (d + 31) sh sg la kp tr (-2) 0 hM (by decide) (by decide)) (by omega) (Nat.le_refl _) (Nat.le_refl _) rfl (Nat.le_of_ble_eq_true rfl) (fun r S1 hp => ?_)
      obtain ⟨rfl, rfl⟩ := hp
      show AW l G mX8_row (d + 32) (az_F G Post) 0 0 42 [some (.ref 60), some (.int s), some (.int t), some (.int n), none] [.int (-2)] (sh, (az_w sg 76 (0 + 2) (sg 76 (0 + 2) + 1)), la)
      have hq : (q_row σ s t n) = ((-2), (rfs σ 0)) := by
        unfold q_row
        try simp only [h_1', h_2', and_true, true_and, and_false, false_and, and_self, or_true, true_or, or_false, false_or, not_true_eq_false, not_false_eq_true, if_true, if_false, ite_true, ite_false, decide_true, decide_false, reduceIte]
        first | done | rfl
      exact A_iret dX8_row_42 rfl (hP _ _ (RQ_i hq (hR.ref (k := 0) (by decide))))
    · skip
      have h_2' := b2i_n.mp h_2
      refine A_iload_n dX8_row_24 rfl rfl ?_
      refine A_i2l dX8_row_25 ?_
      refine A_lconst (v := 0) dX8_row_26 (by decide) ?_
      refine A_ldc2 (v := 40) dX8_row_27 lcX8_99 ?_
      refine A_callS (n := 0) dX8_row_30 ksX8_in mlX8_91 rfl (c_X8_inI l G (d + 31) sh sg la n 40 40 (by decide)) (by omega) (Nat.le_refl _) (Nat.le_refl _) rfl (Nat.le_of_ble_eq_true rfl) (fun r S1 hp => ?_)
      obtain ⟨rfl, rfl⟩ := hp
      show AW l G mX8_row (d + 32) (az_F G Post) 0 0 33 [some (.ref 60), some (.int s), some (.int t), some (.int n), none] [.int (b2i (0 ≤ n ∧ n ≤ 40))] (sh, sg, la)
      refine A_if_ne (tgt := 43) dX8_row_33 rfl (fun h_3 => ?_) (fun h_3 => ?_)
      · skip
        have h_3' := b2i_n.mp h_3
        obtain ⟨s1, hs1, rfl⟩ := nI_ex (m := 7) h_1'
        have hc_s1 : (nI s1).toNatClampNeg = s1 := nI_clamp (by omega)
        obtain ⟨t1, ht1, rfl⟩ := nI_ex (m := 4) h_2'
        have hc_t1 : (nI t1).toNatClampNeg = t1 := nI_clamp (by omega)
        obtain ⟨n1, hn1, rfl⟩ := nI_ex (m := 40) h_3'
        have hc_n1 : (nI n1).toNatClampNeg = n1 := nI_clamp (by omega)
        have hs8 : s1 < 8 := by omega
        refine A_aload_n dX8_row_43 rfl rfl ?_
        refine B_getR (r := 61) dX8_row_44 flX8_7 (hM 0 _ rfl) rfl ?_
        refine A_iload_n dX8_row_47 rfl rfl ?_
        refine A_iconst (v := 1) dX8_row_48 (by decide) ?_
        refine B_iast (i := s1) dX8_row_49 (hM 1 _ rfl) (by decide) (rfl) (by omega) ?_
        refine A_aload_n dX8_row_50 rfl rfl ?_
        refine B_getR (r := 62) dX8_row_51 flX8_13 (hM 0 _ rfl) rfl ?_
        refine A_iload_n dX8_row_54 rfl rfl ?_
        refine A_iload_n dX8_row_55 rfl rfl ?_
        refine B_iast (i := s1) dX8_row_56 (hM 2 _ rfl) (by decide) (rfl) (by omega) ?_
        refine A_aload_n dX8_row_57 rfl rfl ?_
        refine B_getR (r := 63) dX8_row_58 flX8_16 (hM 0 _ rfl) rfl ?_
        refine A_iload_n dX8_row_61 rfl rfl ?_
        refine A_iload_n dX8_row_62 rfl rfl ?_
        refine B_iast (i := s1) dX8_row_63 (hM 3 _ rfl) (by decide) (rfl) (by omega) ?_
        refine A_iconst (v := 0) dX8_row_64 (by decide) ?_
        refine A_istore (lo2 := [some (.ref 60), some (.int (nI s1)), some (.int (nI t1)), some (.int (nI n1)), some (.int 0)]) dX8_row_65 (by decide) rfl ?_
        refine B_la (show la = va_up la (65 + s1) (zfill (la (65 + s1)) 0 0) by rw [zfill_0, az_up_id]) ?_
        have loop : ∀ (q_i9 i9 : Nat), i9 + q_i9 = 40 → AW l G mX8_row (d + 32) (az_F G Post) 0 0 67 [some (.ref 60), some (.int (nI s1)), some (.int (nI t1)), some (.int (nI n1)), some (.int (nI i9))] [] (sh, (az_w (az_w (az_w sg 61 s1 1) 62 s1 (nI t1)) 63 s1 (nI n1)), (va_up la (65 + s1) (zfill (la (65 + s1)) i9 0))) := by
          intro q_i9
          induction q_i9 with
          | zero =>
            intro i9  hi_i9  
            have hN_i9 : i9 = 40 := by omega
            subst i9
            refine A_iload dX8_row_67 rfl ?_
            refine A_bipush (v := 40) dX8_row_69 (by decide) ?_
            refine A_icmp_ge (tgt := 90) dX8_row_71 rfl (fun h_4 => ?_) (fun h_4 => ?_)
            · skip
              refine A_iconst (v := 1) dX8_row_90 (by decide) ?_
              have hR2 : RX g _ _ (yS σ (va_up (xS σ) s1 (nI t1, n1, -1, zfill (fEl (xS σ s1)) 40 0))) kp tr := hR.setS (s' := (az_w (az_w (az_w sg 61 s1 1) 62 s1 (nI t1)) 63 s1 (nI n1))) (l' := (va_up la (65 + s1) (zfill (la (65 + s1)) 40 0))) (f := (nI t1, n1, -1, zfill (fEl (xS σ s1)) 40 0)) (fun k a b c d => by rw [az_w_ne c, az_w_ne b, az_w_ne a]) (fun k j hj hk => by rcases hk with rfl | rfl | rfl | rfl <;> simp [az_w, va_up, hj]) (fun k hk _ => az_up_ne hk) hs8 ⟨by rw [az_w_ne (by decide), az_w_ne (by decide), az_w_at]; exact (rTag_1 (f := (nI t1, n1, -1, zfill (fEl (xS σ s1)) 40 0)).mpr ⟨(show ¬ nI t1 = -1 from nI_n1 (by omega)), rfl⟩).symm, fun _ => ⟨by rw [az_w_ne (by decide), az_w_at]; rfl, by rw [az_w_at]; rfl⟩, fun q => absurd rfl q, by rw [az_up_self, (hR.sh hs8).2.2.2]; rfl⟩
              have hq : (q_row σ (nI s1) (nI t1) (nI n1)) = (1, yS σ (va_up (xS σ) s1 (nI t1, n1, -1, zfill (fEl (xS σ s1)) 40 0))) := by
                unfold q_row xf
                rw [if_pos ⟨h_1', h_2', h_3'⟩, hc_s1, hc_n1]
              exact A_iret dX8_row_91 rfl (hP _ _ (RQ_i hq hR2))
            · skip
              exact absurd (Int32.le_refl _) h_4
          | succ q_i9 ih =>
            intro i9  hi_i9  
            refine A_iload dX8_row_67 rfl ?_
            refine A_bipush (v := 40) dX8_row_69 (by decide) ?_
            refine A_icmp_ge (tgt := 90) dX8_row_71 rfl (fun h_5 => ?_) (fun h_5 => ?_)
            · skip
              exact absurd h_5 (nI_ge (b := 40) (by omega) (by decide))
            · skip
              refine A_aload_n dX8_row_74 rfl rfl ?_
              refine B_getR (r := 64) dX8_row_75 flX8_21 (hM 0 _ rfl) rfl ?_
              refine A_iload_n dX8_row_78 rfl rfl ?_
              have hL_s1 := lyM_row' hM (show s1 < 8 by omega)
              refine B_aald (i := s1) (r := (65 + s1)) dX8_row_79 (hM 4 _ rfl) (by decide) rfl rfl (by decide) (rfl) (by omega) (zsm_r (show s1 < 8 by omega)) ?_
              refine A_iload dX8_row_80 rfl ?_
              refine A_lconst (v := 0) dX8_row_82 (by decide) ?_
              refine B_last (i := i9) dX8_row_83 (hL_s1 0 _ rfl) (by decide) (rfl) (by omega) ?_
              refine B_la (zfill_w la (65 + s1) i9 0) ?_
              refine A_iinc (v := nI (i9 + 1)) (lo2 := [some (.ref 60), some (.int (nI s1)), some (.int (nI t1)), some (.int (nI n1)), some (.int (nI (i9 + 1)))]) dX8_row_84 rfl (nI_1 i9) (by decide) rfl ?_
              refine A_goto (tgt := 67) dX8_row_87 rfl ?_
              refine ih (i9 + 1) (by omega)
        exact loop (40) 0 (by omega)
      · skip
        have h_3' := b2i_0.mp h_3
        refine A_aload_n dX8_row_36 rfl rfl ?_
        refine A_bipush (v := (-2)) dX8_row_37 (by decide) ?_
        refine A_callV (n := 0) dX8_row_39 kvX8_refuse mlX8_101 rfl (az_rc_obj clX8 (hM 0 _ rfl)) (c_X8_refuse l G (d + 31) sh sg la kp tr (-2) 0 hM (by decide) (by decide)) (by omega) (Nat.le_refl _) (Nat.le_refl _) rfl (Nat.le_of_ble_eq_true rfl) (fun r S1 hp => ?_)
        obtain ⟨rfl, rfl⟩ := hp
        show AW l G mX8_row (d + 32) (az_F G Post) 0 0 42 [some (.ref 60), some (.int s), some (.int t), some (.int n), none] [.int (-2)] (sh, (az_w sg 76 (0 + 2) (sg 76 (0 + 2) + 1)), la)
        have hq : (q_row σ s t n) = ((-2), (rfs σ 0)) := by
          unfold q_row
          try simp only [h_1', h_2', h_3', and_true, true_and, and_false, false_and, and_self, or_true, true_or, or_false, false_or, not_true_eq_false, not_false_eq_true, if_true, if_false, ite_true, ite_false, decide_true, decide_false, reduceIte]
          first | done | rfl
        exact A_iret dX8_row_42 rfl (hP _ _ (RQ_i hq (hR.ref (k := 0) (by decide))))
set_option maxHeartbeats 1000000 in
set_option maxRecDepth 100000 in
theorem y_feed (l : Launch) (G : az_Gh) (d : Nat) (sh : List az_Sh) (sg : Nat → Nat → Int32) (la : Nat → Nat → Int64) (g : GGM) (σ : SGM) (kp tr : Option Nat) (x : Int32) (hM : az_at sh 60 (lyM 60 kp tr)) (hR : RX g sg la σ kp tr) (hW : WF σ)  : AM l G (d + 32) mX8_feed [.ref 60, .int x] (sh, sg, la) 0 0 (RQ sh g kp tr (.int (q_feed σ x).1) (q_feed σ x).2) := by
  refine az_am knX8_feed (Nat.le_of_ble_eq_true rfl) rfl (fun Post hP => ?_)
  show AW l G mX8_feed (d + 32) (az_F G Post) 0 0 0 [some (.ref 60), some (.int x)] [] (sh, sg, la)
  have hO := hW.1.1.1
  have hL := cW_lv hW.1
  have haw := hW.1.2.2.1
  have h8 := hO.2
  refine A_iload_n dX8_feed_0 rfl rfl ?_
  refine A_i2l dX8_feed_1 ?_
  refine A_lconst (v := 0) dX8_feed_2 (by decide) ?_
  refine A_ldc2 (v := 255) dX8_feed_3 lcX8_142 ?_
  refine A_callS (n := 0) dX8_feed_6 ksX8_in mlX8_91 rfl (c_X8_inI l G (d + 31) sh sg la x 255 255 (by decide)) (by omega) (Nat.le_refl _) (Nat.le_refl _) rfl (Nat.le_of_ble_eq_true rfl) (fun r S1 hp => ?_)
  obtain ⟨rfl, rfl⟩ := hp
  show AW l G mX8_feed (d + 32) (az_F G Post) 0 0 9 [some (.ref 60), some (.int x)] [.int (b2i (0 ≤ x ∧ x ≤ 255))] (sh, sg, la)
  refine A_if_ne (tgt := 19) dX8_feed_9 rfl (fun h_1 => ?_) (fun h_1 => ?_)
  · skip
    have h_1' := b2i_n.mp h_1
    have ht250 := hW.2.2.1
    refine A_aload_n dX8_feed_19 rfl rfl ?_
    refine B_getV (nI (xTn σ)) dX8_feed_20 flX8_144 (hM 0 _ rfl) rfl (hR.2.1.1) ?_
    refine A_sipush (v := 250) dX8_feed_23 (by decide) ?_
    refine A_icmp_ne (tgt := 36) dX8_feed_26 rfl (fun h_2 => ?_) (fun h_2 => ?_)
    · skip
      have hfl : ¬ 250 ≤ xTn σ := fun q => h_2 (congrArg nI (show xTn σ = 250 by omega))
      refine A_aload_n dX8_feed_36 rfl rfl ?_
      refine B_getR (r := 75) dX8_feed_37 flX8_31 (hM 0 _ rfl) rfl ?_
      refine A_aload_n dX8_feed_40 rfl rfl ?_
      refine A_dup dX8_feed_41 rfl ?_
      refine B_getV (nI (xTn σ)) dX8_feed_42 flX8_144 (hM 0 _ rfl) rfl (hR.2.1.1) ?_
      refine A_dup_x1 dX8_feed_45 rfl rfl ?_
      refine A_iconst (v := 1) dX8_feed_46 (by decide) ?_
      refine A_iadd dX8_feed_47 ?_
      refine B_putI dX8_feed_48 fwX8_144 (hM 0 _ rfl) rfl ?_
      refine A_iload_n dX8_feed_51 rfl rfl ?_
      refine B_iast (i := (xTn σ)) dX8_feed_52 (hM 15 _ rfl) (by decide) (rfl) (by omega) ?_
      refine A_aload_n dX8_feed_53 rfl rfl ?_
      refine B_getI dX8_feed_54 flX8_144 (hM 0 _ rfl) rfl ?_
      have hR2 : RX g _ la (yT σ (xTn σ + 1) (va_up (xTb σ) (xTn σ) x)) kp tr := hR.setT (s' := (az_w (az_w sg 60 7 (nI (xTn σ) + 1)) 75 (xTn σ) x)) (fun k a b => by rw [az_w_ne b, az_w_ne a]) (fun j hj => by rw [az_w_ne (by decide), az_w_nj hj]) (by rw [az_w_ne (by decide), az_w_at]; exact nI_1 _) (by rw [az_w_same, az_w_ne (by decide), hR.2.1.2])
      have hq : (q_feed σ x) = ((az_w (az_w sg 60 7 (nI (xTn σ) + 1)) 75 (xTn σ) x) 60 7, (yT σ (xTn σ + 1) (va_up (xTb σ) (xTn σ) x))) := by
        unfold q_feed
        rw [if_pos h_1', if_neg hfl, az_w_ne (by decide), az_w_at, nI_1]
      exact A_iret dX8_feed_57 rfl (hP _ _ (RQ_i hq hR2))
    · skip
      have hfl : 250 ≤ xTn σ := by have := (nI_eq (b := 250) (by omega) (by decide)).mp h_2; omega
      refine A_aload_n dX8_feed_29 rfl rfl ?_
      refine A_bipush (v := (-6)) dX8_feed_30 (by decide) ?_
      refine A_callV (n := 0) dX8_feed_32 kvX8_refuse mlX8_101 rfl (az_rc_obj clX8 (hM 0 _ rfl)) (c_X8_refuse l G (d + 31) sh sg la kp tr (-6) 4 hM (by decide) (by decide)) (by omega) (Nat.le_refl _) (Nat.le_refl _) rfl (Nat.le_of_ble_eq_true rfl) (fun r S1 hp => ?_)
      obtain ⟨rfl, rfl⟩ := hp
      show AW l G mX8_feed (d + 32) (az_F G Post) 0 0 35 [some (.ref 60), some (.int x)] [.int (-6)] (sh, (az_w sg 76 (4 + 2) (sg 76 (4 + 2) + 1)), la)
      have hq : (q_feed σ x) = ((-6), (rfs σ 4)) := by
        unfold q_feed
        rw [if_pos h_1', if_pos hfl]
        first | done | rfl
      exact A_iret dX8_feed_35 rfl (hP _ _ (RQ_i hq (hR.ref (k := 4) (by decide))))
  · skip
    have h_1' := b2i_0.mp h_1
    refine A_aload_n dX8_feed_12 rfl rfl ?_
    refine A_bipush (v := (-2)) dX8_feed_13 (by decide) ?_
    refine A_callV (n := 0) dX8_feed_15 kvX8_refuse mlX8_101 rfl (az_rc_obj clX8 (hM 0 _ rfl)) (c_X8_refuse l G (d + 31) sh sg la kp tr (-2) 0 hM (by decide) (by decide)) (by omega) (Nat.le_refl _) (Nat.le_refl _) rfl (Nat.le_of_ble_eq_true rfl) (fun r S1 hp => ?_)
    obtain ⟨rfl, rfl⟩ := hp
    show AW l G mX8_feed (d + 32) (az_F G Post) 0 0 18 [some (.ref 60), some (.int x)] [.int (-2)] (sh, (az_w sg 76 (0 + 2) (sg 76 (0 + 2) + 1)), la)
    have hq : (q_feed σ x) = ((-2), (rfs σ 0)) := by
      unfold q_feed
      try simp only [h_1', and_true, true_and, and_false, false_and, and_self, or_true, true_or, or_false, false_or, not_true_eq_false, not_false_eq_true, if_true, if_false, ite_true, ite_false, decide_true, decide_false, reduceIte]
      first | done | rfl
    exact A_iret dX8_feed_18 rfl (hP _ _ (RQ_i hq (hR.ref (k := 0) (by decide))))
set_option maxHeartbeats 1000000 in
set_option maxRecDepth 100000 in
theorem y_wipe (l : Launch) (G : az_Gh) (d : Nat) (sh : List az_Sh) (sg : Nat → Nat → Int32) (la : Nat → Nat → Int64) (g : GGM) (σ : SGM) (kp tr : Option Nat)  (hM : az_at sh 60 (lyM 60 kp tr)) (hR : RX g sg la σ kp tr) (hW : WF σ)  : AM l G (d + 32) mX8_wipe [.ref 60] (sh, sg, la) 0 0 (RQ sh g kp tr (.int (q_wipe σ).1) (q_wipe σ).2) := by
  refine az_am knX8_wipe (Nat.le_of_ble_eq_true rfl) rfl (fun Post hP => ?_)
  show AW l G mX8_wipe (d + 32) (az_F G Post) 0 0 0 [some (.ref 60), none] [] (sh, sg, la)
  have hO := hW.1.1.1
  have hL := cW_lv hW.1
  have haw := hW.1.2.2.1
  have h8 := hO.2
  refine A_aload_n dX8_wipe_0 rfl rfl ?_
  refine B_getV (nI (xTn σ)) dX8_wipe_1 flX8_144 (hM 0 _ rfl) rfl (hR.2.1.1) ?_
  refine A_istore_n (lo2 := [some (.ref 60), some (.int (nI (xTn σ)))]) dX8_wipe_4 rfl (by decide) rfl ?_
  refine A_aload_n dX8_wipe_5 rfl rfl ?_
  refine A_iconst (v := 0) dX8_wipe_6 (by decide) ?_
  refine B_putI dX8_wipe_7 fwX8_144 (hM 0 _ rfl) rfl ?_
  refine A_iload_n dX8_wipe_10 rfl rfl ?_
  have hR2 : RX g _ la (yT σ 0 (xTb σ)) kp tr := hR.setT (s' := (az_w sg 60 7 0)) (fun k a b => az_w_ne a) (fun j hj => az_w_nj hj) (az_w_at _ _ _ _) (by rw [az_w_ne (by decide), hR.2.1.2])
  have hq : (q_wipe σ) = (nI (xTn σ), (yT σ 0 (xTb σ))) := by
    rfl
  exact A_iret dX8_wipe_11 rfl (hP _ _ (RQ_i hq hR2))
