theorem and1_01 (a : Int32) : a &&& 1 = 0 ∨ a &&& 1 = 1 := by
  have h : (a &&& 1).toBitVec = a.toBitVec &&& 1#32 := rfl
  have h2 : (a.toBitVec &&& 1#32).toNat = a.toBitVec.toNat % 2 := by rw [BitVec.toNat_and]; exact Nat.and_two_pow_sub_one_eq_mod _ 1
  rcases Nat.mod_two_eq_zero_or_one a.toBitVec.toNat with e | e
  · left
    refine Int32.toBitVec_inj.mp ?_
    rw [h]
    exact BitVec.eq_of_toNat_eq (by rw [h2, e]; rfl)
  · right
    refine Int32.toBitVec_inj.mp ?_
    rw [h]
    exact BitVec.eq_of_toNat_eq (by rw [h2, e]; rfl)
theorem zbl_n {B : Nat → Int32} {p q : Nat} (h : ¬ (B q >>> (nI p &&& 31)) &&& 1 = 0) : zbl B p q = true := decide_eq_true ((and1_01 _).resolve_left h)
theorem zbl_z {B : Nat → Int32} {p q : Nat} (h : (B q >>> (nI p &&& 31)) &&& 1 = 0) : ¬ zbl B p q = true := fun z => absurd (h.symm.trans (of_decide_eq_true z)) (by decide)
theorem q_B_hi {σ : SGM} {s n : Int32} (h8 : cN (xN σ) ≤ 8) (h : q_bf σ s n = 0) : ∀ j, q_B σ s n j &&& (nI (2 ^ cN (xN σ) - 1) ^^^ (-1)) = 0 := by
  have hc := (q_bf_0 h).2
  refine zcl_hi h8 _ (fun i hi => ?_)
  have hz := zfind_no hc hi
  have hz2 : zpg (cN (xN σ)) (zcl (cN (xN σ)) (q_r1 σ s) (q_r2 σ s) i) (q_r1 σ s i) (q_r2 σ s i) = true := by
    unfold zclB at hz
    cases q : zpg (cN (xN σ)) (zcl (cN (xN σ)) (q_r1 σ s) (q_r2 σ s) i) (q_r1 σ s i) (q_r2 σ s i)
    · rw [q] at hz; exact absurd hz (by decide)
    · rfl
  unfold zpg at hz2
  exact (zIn_at h8 (zInB_i (Bool.and_eq_true_iff.mp (Bool.and_eq_true_iff.mp hz2).2).1)).2
theorem q_nb_q {σ : SGM} {s n : Int32} {v : Int32 × SGM} (h : ¬ (q_noBowls σ s n).1 = 0) : (if q_bf σ s n = 0 then v else qr σ (q_bf σ s n)) = ((q_noBowls σ s n).1, (q_noBowls σ s n).2) := by
  have z : ¬ q_bf σ s n = 0 := fun q => h (by unfold q_noBowls; rw [if_pos q])
  unfold q_noBowls
  rw [if_neg z, if_neg z]
theorem mx_le {a b : Int32} (h : a ≤ b) : b = mxI a b := by
  unfold mxI
  by_cases q : a < b
  · rw [if_pos q]
  · rw [if_neg q]; exact Int32.le_antisymm (Int32.not_lt.mp q) h
theorem mx_nle {a b : Int32} (h : ¬ a ≤ b) : a = mxI a b := by
  unfold mxI
  rw [if_neg (fun q => h (Int32.le_of_lt q))]
theorem zbs_cd {B : Nat → Int32} {N i j : Nat} {z : Int32 × Int32} : (zbs B N i j z).1 = z.1 ∨ (zbs B N i j z).1 = nI (10 * i + j) := by
  unfold zbs
  split
  · exact Or.inl rfl
  · split
    · exact Or.inr (by show 10 * nI i + nI j = _; rw [← nI_add, ← nI_mul]; rfl)
    · exact Or.inl rfl
def zcd (x : Int32) (m : Nat) : Prop := x = -1 ∨ ∃ k, k < m ∧ x = nI k
theorem zcd_le {x : Int32} {m m2 : Nat} (h : zcd x m) (h2 : m ≤ m2) : zcd x m2 := h.elim Or.inl (fun ⟨k, a, b⟩ => Or.inr ⟨k, by omega, b⟩)
theorem zbj_cd {B : Nat → Int32} {N i : Nat} {z : Int32 × Int32} (h : zcd z.1 (10 * i)) : ∀ m, zcd (zbj B N i z m).1 (10 * i + (i + 1 + m))
  | 0 => zcd_le h (by omega)
  | m + 1 => by
    have ih := zbj_cd (B := B) (N := N) h m
    show zcd (zbs B N i (i + 1 + m) (zbj B N i z m)).1 _
    rcases zbs_cd (B := B) (N := N) (i := i) (j := i + 1 + m) (z := zbj B N i z m) with e | e
    · rw [e]; exact zcd_le ih (by omega)
    · exact Or.inr ⟨_, by omega, e⟩
theorem zbo_cd {B : Nat → Int32} {N : Nat} (hN : N ≤ 8) : ∀ i, i ≤ N → zcd (zbo B N i).1 (10 * i)
  | 0, _ => Or.inl rfl
  | i + 1, h => by
    have ih := zbo_cd (B := B) hN i (by omega)
    exact zcd_le (zbj_cd ih (N - (i + 1))) (by omega)
theorem zcd_ne {x : Int32} {m : Nat} (h : zcd x m) (hm : m < 2 ^ 31) : ¬ x = nI m := by
  rcases h with e | ⟨k, a, e⟩
  · rw [e]; exact fun q => nI_n1 hm q.symm
  · rw [e]; exact fun q => absurd ((nI_eq (by omega) hm).mp q) (by omega)
set_option maxHeartbeats 1000000 in
set_option maxRecDepth 100000 in
theorem y_orders (l : Launch) (G : az_Gh) (d : Nat) (sh : List az_Sh) (sg : Nat → Nat → Int32) (la : Nat → Nat → Int64) (g : GGM) (σ : SGM) (kp tr : Option Nat) (s n : Int32) (hM : az_at sh 60 (lyM 60 kp tr)) (hR : RX g sg la σ kp tr) (hW : WF σ) : AM l G (d + 32) mX8_orders [.ref 60, .int s, .int n] (sh, sg, la) 0 0 (RQ sh g kp tr (.int (q_orders σ s n).1) (q_orders σ s n).2) := by
  refine az_am knX8_orders (Nat.le_of_ble_eq_true rfl) rfl (fun Post hP => ?_)
  show AW l G mX8_orders (d + 32) (az_F G Post) 0 0 0 [some (.ref 60), some (.int s), some (.int n), none] [] (sh, sg, la)
  have hO := hW.1.1.1
  have h8 := hO.2
  refine A_aload_n dX8_orders_0 rfl rfl ?_
  refine A_iload_n dX8_orders_1 rfl rfl ?_
  refine A_iload_n dX8_orders_2 rfl rfl ?_
  refine A_callV (n := 0) dX8_orders_3 kvX8_noBowls mlX8_326 rfl (az_rc_obj clX8 (hM 0 _ rfl)) (y_noBowls l G (d + 23) sh sg la g σ kp tr s n hM hR hW) (by omega) (Nat.le_refl _) (Nat.le_refl _) rfl (Nat.le_of_ble_eq_true rfl) (fun r S1 hp => ?_)
  obtain ⟨rfl, sg1, la1, rfl, hR1, hb1⟩ := hp
  show AW l G mX8_orders (d + 32) (az_F G Post) 0 0 6 [some (.ref 60), some (.int s), some (.int n), none] [.int (q_noBowls σ s n).1] (sh, sg1, la1)
  refine A_istore_n (lo2 := [some (.ref 60), some (.int s), some (.int n), some (.int (q_noBowls σ s n).1)]) dX8_orders_6 rfl (by decide) rfl ?_
  refine A_iload_n dX8_orders_7 rfl rfl ?_
  refine A_if_eq (tgt := 15) dX8_orders_8 rfl (fun h_1 => ?_) (fun h_1 => ?_)
  · skip
    have hbf := q_nb_0 h_1
    have enb : q_noBowls σ s n = (0, σ) := if_pos hbf
    rw [enb] at hR1
    have hR1 : RX g sg1 la1 σ kp tr := hR1
    have hb2 := hb1 hbf
    have hhi := q_B_hi h8 hbf
    refine B_sg hR1.z.symm ?_
    refine A_aload_n dX8_orders_15 rfl rfl ?_
    refine A_iconst (v := -1) dX8_orders_16 (by decide) ?_
    refine A_iconst (v := -1) dX8_orders_17 (by decide) ?_
    refine A_callV (n := 0) dX8_orders_18 kvX8_countOrders mlX8_329 rfl (az_rc_obj clX8 (hM 0 _ rfl)) (r_countOrders l G (d + 31) sh sg1 la1 kp tr (xN σ) (q_B σ s n) (-1) (-1) hM hO hb2) (by omega) (Nat.le_refl _) (Nat.le_refl _) rfl (Nat.le_of_ble_eq_true rfl) (fun r S1 hp => ?_)
    obtain ⟨rfl, rfl⟩ := hp
    show AW l G mX8_orders (d + 32) (az_F G Post) 0 0 21 [some (.ref 60), some (.int s), some (.int n), some (.int (q_noBowls σ s n).1)] [.int ((zrt (q_B σ s n) (-1) (-1) (cN (xN σ)) (sg1 85) (2 ^ cN (xN σ) - 1)) (2 ^ cN (xN σ) - 1))] (sh, mput (va_up sg1 85 (zrt (q_B σ s n) (-1) (-1) (cN (xN σ)) (sg1 85) (2 ^ cN (xN σ) - 1))) 60 (xN σ), la1)
    refine B_top (zco_rt _ h8 hhi (Or.inl ⟨rfl, rfl⟩)) ?_
    have hq : q_orders σ s n = ((zco (q_B σ s n) (-1) (-1) (cN (xN σ))), σ) := if_pos hbf
    exact A_iret dX8_orders_21 rfl (hP _ _ (RQ_i hq (hR1.fin0 ((sC.rf sg1).up (by omega) _))))
  · skip
    refine A_iload_n dX8_orders_11 rfl rfl ?_
    refine A_goto (tgt := 21) dX8_orders_12 rfl ?_
    exact A_iret dX8_orders_21 rfl (hP _ _ (RQ_i (q_nb_q h_1) hR1))
set_option maxHeartbeats 1000000 in
set_option maxRecDepth 100000 in
theorem y_next (l : Launch) (G : az_Gh) (d : Nat) (sh : List az_Sh) (sg : Nat → Nat → Int32) (la : Nat → Nat → Int64) (g : GGM) (σ : SGM) (kp tr : Option Nat) (s n : Int32) (hM : az_at sh 60 (lyM 60 kp tr)) (hR : RX g sg la σ kp tr) (hW : WF σ) : AM l G (d + 32) mX8_next [.ref 60, .int s, .int n] (sh, sg, la) 0 0 (RQ sh g kp tr (.int (q_next σ s n).1) (q_next σ s n).2) := by
  refine az_am knX8_next (Nat.le_of_ble_eq_true rfl) rfl (fun Post hP => ?_)
  show AW l G mX8_next (d + 32) (az_F G Post) 0 0 0 [some (.ref 60), some (.int s), some (.int n), none, none, none, none, none, none, none, none] [] (sh, sg, la)
  have hO := hW.1.1.1
  have h8 := hO.2
  refine A_aload_n dX8_next_0 rfl rfl ?_
  refine A_iload_n dX8_next_1 rfl rfl ?_
  refine A_iload_n dX8_next_2 rfl rfl ?_
  refine A_callV (n := 0) dX8_next_3 kvX8_noBowls mlX8_326 rfl (az_rc_obj clX8 (hM 0 _ rfl)) (y_noBowls l G (d + 23) sh sg la g σ kp tr s n hM hR hW) (by omega) (Nat.le_refl _) (Nat.le_refl _) rfl (Nat.le_of_ble_eq_true rfl) (fun r S1 hp => ?_)
  obtain ⟨rfl, sg1, la1, rfl, hR1, hb1⟩ := hp
  show AW l G mX8_next (d + 32) (az_F G Post) 0 0 6 [some (.ref 60), some (.int s), some (.int n), none, none, none, none, none, none, none, none] [.int (q_noBowls σ s n).1] (sh, sg1, la1)
  refine A_istore_n (lo2 := [some (.ref 60), some (.int s), some (.int n), some (.int (q_noBowls σ s n).1), none, none, none, none, none, none, none]) dX8_next_6 rfl (by decide) rfl ?_
  refine A_iload_n dX8_next_7 rfl rfl ?_
  refine A_if_eq (tgt := 13) dX8_next_8 rfl (fun h_1 => ?_) (fun h_1 => ?_)
  · skip
    have hbf := q_nb_0 h_1
    have enb : q_noBowls σ s n = (0, σ) := if_pos hbf
    rw [enb] at hR1
    have hR1 : RX g sg1 la1 σ kp tr := hR1
    have hb2 := hb1 hbf
    have hhi := q_B_hi h8 hbf
    refine B_sg hR1.z.symm ?_
    refine A_iconst (v := -1) dX8_next_13 (by decide) ?_
    refine A_istore (lo2 := [some (.ref 60), some (.int s), some (.int n), some (.int (q_noBowls σ s n).1), some (.int (-1)), none, none, none, none, none, none]) dX8_next_14 (by decide) rfl ?_
    refine A_iconst (v := 0) dX8_next_16 (by decide) ?_
    refine A_istore (lo2 := [some (.ref 60), some (.int s), some (.int n), some (.int (q_noBowls σ s n).1), some (.int (-1)), some (.int 0), none, none, none, none, none]) dX8_next_17 (by decide) rfl ?_
    refine A_iconst (v := 0) dX8_next_19 (by decide) ?_
    refine A_istore (lo2 := [some (.ref 60), some (.int s), some (.int n), some (.int (q_noBowls σ s n).1), some (.int (-1)), some (.int 0), some (.int (nI 0)), none, none, none, none]) dX8_next_20 (by decide) rfl ?_
    have loop : ∀ (q i : Nat) (v : Nat → Nat → Int32) (b f : Int32), i + q = (cN (xN σ)) → sC sg1 v → (∀ j, j < (cN (xN σ)) → v 84 j = (q_B σ s n) j) → b = (zbo (q_B σ s n) (cN (xN σ)) i).1 → f = (zbo (q_B σ s n) (cN (xN σ)) i).2 → AW l G mX8_next (d + 32) (az_F G Post) 0 0 22 [some (.ref 60), some (.int s), some (.int n), some (.int (q_noBowls σ s n).1), some (.int b), some (.int f), some (.int (nI i)), none, none, none, none] [] (sh, mput v 60 (xN σ), la1) := by
      intro q
      induction q with
      | zero =>
        intro i v b f hi hs hv eb ef
        have ei : i = (cN (xN σ)) := by omega
        subst ei
        refine A_iload dX8_next_22 rfl ?_
        refine A_aload_n dX8_next_24 rfl rfl ?_
        refine B_getV (nI (cN (xN σ))) dX8_next_25 flX8_88 (hM 0 _ rfl) rfl ((mr_14 _ _ _).trans hO.1) ?_
        refine A_icmp_ge (tgt := 174) dX8_next_28 rfl (fun h_2 => ?_) (fun h_2 => ?_)
        · skip
          refine A_iload dX8_next_174 rfl ?_
          have hq : q_next σ s n = (b, σ) := (if_pos hbf).trans (by rw [← eb])
          exact A_iret dX8_next_176 rfl (hP _ _ (RQ_i hq (hR1.fin0 hs)))
        · exact absurd (Int32.le_refl _) h_2
      | succ q ih =>
        intro i v b f hi hs hv eb ef
        refine A_iload dX8_next_22 rfl ?_
        refine A_aload_n dX8_next_24 rfl rfl ?_
        refine B_getV (nI (cN (xN σ))) dX8_next_25 flX8_88 (hM 0 _ rfl) rfl ((mr_14 _ _ _).trans hO.1) ?_
        refine A_icmp_ge (tgt := 174) dX8_next_28 rfl (fun h_2 => ?_) (fun h_2 => ?_)
        · exact absurd h_2 (nI_ge (by omega) (by omega))
        · skip
          have hcd := zbo_cd (B := (q_B σ s n)) h8 i (by omega)
          refine A_iload dX8_next_31 rfl ?_
          refine A_iconst (v := 1) dX8_next_33 (by decide) ?_
          refine A_iadd dX8_next_34 ?_
          refine B_top (nI_1 i) ?_
          refine A_istore (lo2 := [some (.ref 60), some (.int s), some (.int n), some (.int (q_noBowls σ s n).1), some (.int b), some (.int f), some (.int (nI i)), some (.int (nI (i + 1))), none, none, none]) dX8_next_35 (by decide) rfl ?_
          have inner : ∀ (p j : Nat) (v : Nat → Nat → Int32) (b f : Int32), j + p = (cN (xN σ)) → i + 1 ≤ j → sC sg1 v → (∀ j, j < (cN (xN σ)) → v 84 j = (q_B σ s n) j) → b = (zbj (q_B σ s n) (cN (xN σ)) i (zbo (q_B σ s n) (cN (xN σ)) i) (j - (i + 1))).1 → f = (zbj (q_B σ s n) (cN (xN σ)) i (zbo (q_B σ s n) (cN (xN σ)) i) (j - (i + 1))).2 → AW l G mX8_next (d + 32) (az_F G Post) 0 0 37 [some (.ref 60), some (.int s), some (.int n), some (.int (q_noBowls σ s n).1), some (.int b), some (.int f), some (.int (nI i)), some (.int (nI j)), none, none, none] [] (sh, mput v 60 (xN σ), la1) := by
            intro p
            induction p with
            | zero =>
              intro j v b f hj hij hs hv eb ef
              have ej : j = (cN (xN σ)) := by omega
              subst ej
              refine A_iload dX8_next_37 rfl ?_
              refine A_aload_n dX8_next_39 rfl rfl ?_
              refine B_getV (nI (cN (xN σ))) dX8_next_40 flX8_88 (hM 0 _ rfl) rfl ((mr_14 _ _ _).trans hO.1) ?_
              refine A_icmp_ge (tgt := 168) dX8_next_43 rfl (fun h_3 => ?_) (fun h_3 => ?_)
              · skip
                refine A_iinc (v := nI (i + 1)) (lo2 := [some (.ref 60), some (.int s), some (.int n), some (.int (q_noBowls σ s n).1), some (.int b), some (.int f), some (.int (nI (i + 1))), some (.int (nI (cN (xN σ)))), none, none, none]) dX8_next_168 rfl (nI_1 _) (by decide) rfl ?_
                refine A_goto (tgt := 22) dX8_next_171 rfl ?_
                refine A_forget (lo2 := [some (.ref 60), some (.int s), some (.int n), some (.int (q_noBowls σ s n).1), some (.int b), some (.int f), some (.int (nI (i + 1))), none, none, none, none]) ⟨rfl, rfl, rfl, rfl, rfl, rfl, rfl, trivial⟩ ?_
                exact ih (i + 1) v b f (by omega) hs hv eb ef
              · exact absurd (Int32.le_refl _) h_3
            | succ p ih2 =>
              intro j v b f hj hij hs hv eb ef
              refine A_iload dX8_next_37 rfl ?_
              refine A_aload_n dX8_next_39 rfl rfl ?_
              refine B_getV (nI (cN (xN σ))) dX8_next_40 flX8_88 (hM 0 _ rfl) rfl ((mr_14 _ _ _).trans hO.1) ?_
              refine A_icmp_ge (tgt := 168) dX8_next_43 rfl (fun h_3 => ?_) (fun h_3 => ?_)
              · exact absurd h_3 (nI_ge (by omega) (by omega))
              · skip
                refine A_aload_n dX8_next_46 rfl rfl ?_
                refine B_getR (r := 84) dX8_next_47 flX8_77 (hM 0 _ rfl) rfl ?_
                refine A_iload dX8_next_50 rfl ?_
                refine B_ialdV (i := i) ((q_B σ s n) i) dX8_next_52 (hM 24 _ rfl) (by decide) rfl (by omega) ((congrFun (mput_ne (by decide) (by decide)) _).trans (hv i (by omega))) ?_
                refine A_iload dX8_next_53 rfl ?_
                refine A_ishr dX8_next_55 ?_
                refine A_iconst (v := 1) dX8_next_56 (by decide) ?_
                refine A_iand dX8_next_57 ?_
                refine A_if_ne (tgt := 162) dX8_next_58 rfl (fun h_4 => ?_) (fun h_4 => ?_)
                · skip
                  refine A_iinc (v := nI (j + 1)) (lo2 := [some (.ref 60), some (.int s), some (.int n), some (.int (q_noBowls σ s n).1), some (.int b), some (.int f), some (.int (nI i)), some (.int (nI (j + 1))), none, none, none]) dX8_next_162 rfl (nI_1 _) (by decide) rfl ?_
                  refine A_goto (tgt := 37) dX8_next_165 rfl ?_
                  exact ih2 (j + 1) _ _ _ (by omega) (by omega) hs hv (by rw [zbj_s hij, zbs_a (Or.inr (zbl_n h_4))]; exact eb) (by rw [zbj_s hij, zbs_a (Or.inr (zbl_n h_4))]; exact ef)
                · skip
                  refine A_aload_n dX8_next_61 rfl rfl ?_
                  refine B_getR (r := 84) dX8_next_62 flX8_77 (hM 0 _ rfl) rfl ?_
                  refine A_iload dX8_next_65 rfl ?_
                  refine B_ialdV (i := j) ((q_B σ s n) j) dX8_next_67 (hM 24 _ rfl) (by decide) rfl (by omega) ((congrFun (mput_ne (by decide) (by decide)) _).trans (hv j (by omega))) ?_
                  refine A_iload dX8_next_68 rfl ?_
                  refine A_ishr dX8_next_70 ?_
                  refine A_iconst (v := 1) dX8_next_71 (by decide) ?_
                  refine A_iand dX8_next_72 ?_
                  refine A_if_ne (tgt := 162) dX8_next_73 rfl (fun h_5 => ?_) (fun h_5 => ?_)
                  · skip
                    refine A_iinc (v := nI (j + 1)) (lo2 := [some (.ref 60), some (.int s), some (.int n), some (.int (q_noBowls σ s n).1), some (.int b), some (.int f), some (.int (nI i)), some (.int (nI (j + 1))), none, none, none]) dX8_next_162 rfl (nI_1 _) (by decide) rfl ?_
                    refine A_goto (tgt := 37) dX8_next_165 rfl ?_
                    exact ih2 (j + 1) _ _ _ (by omega) (by omega) hs hv (by rw [zbj_s hij, zbs_a (Or.inl (zbl_n h_5))]; exact eb) (by rw [zbj_s hij, zbs_a (Or.inl (zbl_n h_5))]; exact ef)
                  · skip
                    have hnb : ¬ (zbl (q_B σ s n) i j = true ∨ zbl (q_B σ s n) j i = true) := fun z => z.elim (zbl_z h_5) (zbl_z h_4)
                    have hsum : (zco (q_B σ s n) (nI j) (nI i) (cN (xN σ))) = (zco (q_B σ s n) (-1) (-1) (cN (xN σ))) - (zco (q_B σ s n) (nI i) (nI j) (cN (xN σ))) := by
                      have hz := zco_pq h8 (show i < (cN (xN σ)) by omega) (show j < (cN (xN σ)) by omega) (show i ≠ j by omega) (zrt_Pr (fun _ => 0) h8 hhi (Or.inl ⟨rfl, rfl⟩)) (zrt_Pr (fun _ => 0) h8 hhi (Or.inr ⟨i, j, by omega, by omega, rfl, rfl⟩)) (zrt_Pr (fun _ => 0) h8 hhi (Or.inr ⟨j, i, by omega, by omega, rfl, rfl⟩))
                      rw [← hz, Int32.add_comm, Int32.add_sub_cancel]
                    refine A_aload_n dX8_next_76 rfl rfl ?_
                    refine A_iload dX8_next_77 rfl ?_
                    refine A_iload dX8_next_79 rfl ?_
                    refine A_callV (n := 0) dX8_next_81 kvX8_countOrders mlX8_329 rfl (az_rc_obj clX8 (hM 0 _ rfl)) (r_countOrders l G (d + 31) sh v la1 kp tr (xN σ) (q_B σ s n) (nI i) (nI j) hM hO hv) (by omega) (Nat.le_refl _) (Nat.le_refl _) rfl (Nat.le_of_ble_eq_true rfl) (fun r S1 hp => ?_)
                    obtain ⟨rfl, rfl⟩ := hp
                    show AW l G mX8_next (d + 32) (az_F G Post) 0 0 84 [some (.ref 60), some (.int s), some (.int n), some (.int (q_noBowls σ s n).1), some (.int b), some (.int f), some (.int (nI i)), some (.int (nI j)), none, none, none] [.int ((zrt (q_B σ s n) (nI i) (nI j) (cN (xN σ)) (v 85) (2 ^ cN (xN σ) - 1)) (2 ^ cN (xN σ) - 1))] (sh, mput (va_up v 85 (zrt (q_B σ s n) (nI i) (nI j) (cN (xN σ)) (v 85) (2 ^ cN (xN σ) - 1))) 60 (xN σ), la1)
                    refine B_top (zco_rt _ h8 hhi (Or.inr ⟨i, j, by omega, by omega, rfl, rfl⟩)) ?_
                    have hs1 : sC sg1 (va_up v 85 (zrt (q_B σ s n) (nI i) (nI j) (cN (xN σ)) (v 85) (2 ^ cN (xN σ) - 1))) := hs.up (by omega) _
                    have hv1 : ∀ j9, j9 < (cN (xN σ)) → va_up v 85 (zrt (q_B σ s n) (nI i) (nI j) (cN (xN σ)) (v 85) (2 ^ cN (xN σ) - 1)) 84 j9 = (q_B σ s n) j9 := fun j9 hj9 => (congrFun (az_up_ne (by decide)) _).trans (hv j9 hj9)
                    generalize va_up v 85 (zrt (q_B σ s n) (nI i) (nI j) (cN (xN σ)) (v 85) (2 ^ cN (xN σ) - 1)) = v1 at hs1 hv1 ⊢
                    refine A_istore (lo2 := [some (.ref 60), some (.int s), some (.int n), some (.int (q_noBowls σ s n).1), some (.int b), some (.int f), some (.int (nI i)), some (.int (nI j)), some (.int (zco (q_B σ s n) (nI i) (nI j) (cN (xN σ)))), none, none]) dX8_next_84 (by decide) rfl ?_
                    refine A_aload_n dX8_next_86 rfl rfl ?_
                    refine A_iload dX8_next_87 rfl ?_
                    refine A_iload dX8_next_89 rfl ?_
                    refine A_callV (n := 0) dX8_next_91 kvX8_countOrders mlX8_329 rfl (az_rc_obj clX8 (hM 0 _ rfl)) (r_countOrders l G (d + 31) sh v1 la1 kp tr (xN σ) (q_B σ s n) (nI j) (nI i) hM hO hv1) (by omega) (Nat.le_refl _) (Nat.le_refl _) rfl (Nat.le_of_ble_eq_true rfl) (fun r S1 hp => ?_)
                    obtain ⟨rfl, rfl⟩ := hp
                    show AW l G mX8_next (d + 32) (az_F G Post) 0 0 94 [some (.ref 60), some (.int s), some (.int n), some (.int (q_noBowls σ s n).1), some (.int b), some (.int f), some (.int (nI i)), some (.int (nI j)), some (.int (zco (q_B σ s n) (nI i) (nI j) (cN (xN σ)))), none, none] [.int ((zrt (q_B σ s n) (nI j) (nI i) (cN (xN σ)) (v1 85) (2 ^ cN (xN σ) - 1)) (2 ^ cN (xN σ) - 1))] (sh, mput (va_up v1 85 (zrt (q_B σ s n) (nI j) (nI i) (cN (xN σ)) (v1 85) (2 ^ cN (xN σ) - 1))) 60 (xN σ), la1)
                    refine B_top ((zco_rt _ h8 hhi (Or.inr ⟨j, i, by omega, by omega, rfl, rfl⟩)).trans hsum) ?_
                    have hs2 : sC sg1 (va_up v1 85 (zrt (q_B σ s n) (nI j) (nI i) (cN (xN σ)) (v1 85) (2 ^ cN (xN σ) - 1))) := hs1.up (by omega) _
                    have hv2 : ∀ j9, j9 < (cN (xN σ)) → va_up v1 85 (zrt (q_B σ s n) (nI j) (nI i) (cN (xN σ)) (v1 85) (2 ^ cN (xN σ) - 1)) 84 j9 = (q_B σ s n) j9 := fun j9 hj9 => (congrFun (az_up_ne (by decide)) _).trans (hv1 j9 hj9)
                    generalize va_up v1 85 (zrt (q_B σ s n) (nI j) (nI i) (cN (xN σ)) (v1 85) (2 ^ cN (xN σ) - 1)) = v2 at hs2 hv2 ⊢
                    have hms := zbs_b (N := (cN (xN σ))) (z := (zbj (q_B σ s n) (cN (xN σ)) i (zbo (q_B σ s n) (cN (xN σ)) i) (j - (i + 1)))) hnb
                    have hmc := zbs_c (N := (cN (xN σ))) (z := (zbj (q_B σ s n) (cN (xN σ)) i (zbo (q_B σ s n) (cN (xN σ)) i) (j - (i + 1)))) hnb
                    have hne : ¬ b = nI (10 * i + j) := by rw [eb]; exact zcd_ne (zcd_le (zbj_cd hcd _) (by omega)) (by omega)
                    have ecd : 10 * nI i + nI j = nI (10 * i + j) := by rw [← nI_add, ← nI_mul]; rfl
                    rw [← eb, ← ef] at hms hmc
                    generalize (zco (q_B σ s n) (nI i) (nI j) (cN (xN σ))) = a1 at hms hmc ⊢
                    generalize (zco (q_B σ s n) (-1) (-1) (cN (xN σ))) - a1 = a2 at hms hmc ⊢
                    refine A_istore (lo2 := [some (.ref 60), some (.int s), some (.int n), some (.int (q_noBowls σ s n).1), some (.int b), some (.int f), some (.int (nI i)), some (.int (nI j)), some (.int a1), some (.int a2), none]) dX8_next_94 (by decide) rfl ?_
                    have tail : AW l G mX8_next (d + 32) (az_F G Post) 0 0 110 [some (.ref 60), some (.int s), some (.int n), some (.int (q_noBowls σ s n).1), some (.int b), some (.int f), some (.int (nI i)), some (.int (nI j)), some (.int a1), some (.int a2), none] [.int (mxI a1 a2)] (sh, mput v2 60 (xN σ), la1) := by
                      refine A_istore (lo2 := [some (.ref 60), some (.int s), some (.int n), some (.int (q_noBowls σ s n).1), some (.int b), some (.int f), some (.int (nI i)), some (.int (nI j)), some (.int a1), some (.int a2), some (.int (mxI a1 a2))]) dX8_next_110 (by decide) rfl ?_
                      have set1 : b = -1 ∨ mxI a1 a2 < f → AW l G mX8_next (d + 32) (az_F G Post) 0 0 125 [some (.ref 60), some (.int s), some (.int n), some (.int (q_noBowls σ s n).1), some (.int b), some (.int f), some (.int (nI i)), some (.int (nI j)), some (.int a1), some (.int a2), some (.int (mxI a1 a2))] [] (sh, mput v2 60 (xN σ), la1) := by
                        intro hh
                        refine A_bipush (v := 10) dX8_next_125 (by decide) ?_
                        refine A_iload dX8_next_127 rfl ?_
                        refine A_imul dX8_next_129 ?_
                        refine A_iload dX8_next_130 rfl ?_
                        refine A_iadd dX8_next_132 ?_
                        refine A_goto (tgt := 138) dX8_next_133 rfl ?_
                        refine A_istore (lo2 := [some (.ref 60), some (.int s), some (.int n), some (.int (q_noBowls σ s n).1), some (.int (10 * nI i + nI j)), some (.int f), some (.int (nI i)), some (.int (nI j)), some (.int a1), some (.int a2), some (.int (mxI a1 a2))]) dX8_next_138 (by decide) rfl ?_
                        refine A_iload dX8_next_140 rfl ?_
                        refine A_bipush (v := 10) dX8_next_142 (by decide) ?_
                        refine A_iload dX8_next_144 rfl ?_
                        refine A_imul dX8_next_146 ?_
                        refine A_iload dX8_next_147 rfl ?_
                        refine A_iadd dX8_next_149 ?_
                        refine A_icmp_ne (tgt := 158) dX8_next_150 rfl (fun h_7 => absurd rfl h_7) (fun h_7 => ?_)
                        refine A_iload dX8_next_153 rfl ?_
                        refine A_goto (tgt := 160) dX8_next_155 rfl ?_
                        refine A_istore (lo2 := [some (.ref 60), some (.int s), some (.int n), some (.int (q_noBowls σ s n).1), some (.int (10 * nI i + nI j)), some (.int (mxI a1 a2)), some (.int (nI i)), some (.int (nI j)), some (.int a1), some (.int a2), some (.int (mxI a1 a2))]) dX8_next_160 (by decide) rfl ?_
                        refine A_iinc (v := nI (j + 1)) (lo2 := [some (.ref 60), some (.int s), some (.int n), some (.int (q_noBowls σ s n).1), some (.int (10 * nI i + nI j)), some (.int (mxI a1 a2)), some (.int (nI i)), some (.int (nI (j + 1))), some (.int a1), some (.int a2), some (.int (mxI a1 a2))]) dX8_next_162 rfl (nI_1 _) (by decide) rfl ?_
                        refine A_goto (tgt := 37) dX8_next_165 rfl ?_
                        refine A_forget (lo2 := [some (.ref 60), some (.int s), some (.int n), some (.int (q_noBowls σ s n).1), some (.int (10 * nI i + nI j)), some (.int (mxI a1 a2)), some (.int (nI i)), some (.int (nI (j + 1))), none, none, none]) ⟨rfl, rfl, rfl, rfl, rfl, rfl, rfl, rfl, trivial⟩ ?_
                        exact ih2 (j + 1) _ _ _ (by omega) (by omega) hs2 hv2 (by rw [zbj_s hij, hms hh]) (by rw [zbj_s hij, hms hh])
                      refine A_iload dX8_next_112 rfl ?_
                      refine A_iconst (v := -1) dX8_next_114 (by decide) ?_
                      refine A_icmp_eq (tgt := 125) dX8_next_115 rfl (fun h_6 => set1 (Or.inl h_6)) (fun h_6 => ?_)
                      refine A_iload dX8_next_118 rfl ?_
                      refine A_iload dX8_next_120 rfl ?_
                      refine A_icmp_ge (tgt := 136) dX8_next_122 rfl (fun h_7 => ?_) (fun h_7 => set1 (Or.inr (Int32.not_le.mp h_7)))
                      refine A_iload dX8_next_136 rfl ?_
                      refine A_istore (lo2 := [some (.ref 60), some (.int s), some (.int n), some (.int (q_noBowls σ s n).1), some (.int b), some (.int f), some (.int (nI i)), some (.int (nI j)), some (.int a1), some (.int a2), some (.int (mxI a1 a2))]) dX8_next_138 (by decide) rfl ?_
                      refine A_iload dX8_next_140 rfl ?_
                      refine A_bipush (v := 10) dX8_next_142 (by decide) ?_
                      refine A_iload dX8_next_144 rfl ?_
                      refine A_imul dX8_next_146 ?_
                      refine A_iload dX8_next_147 rfl ?_
                      refine A_iadd dX8_next_149 ?_
                      refine A_icmp_ne (tgt := 158) dX8_next_150 rfl (fun h_8 => ?_) (fun h_8 => absurd (h_8.trans ecd) hne)
                      refine A_iload dX8_next_158 rfl ?_
                      refine A_istore (lo2 := [some (.ref 60), some (.int s), some (.int n), some (.int (q_noBowls σ s n).1), some (.int b), some (.int f), some (.int (nI i)), some (.int (nI j)), some (.int a1), some (.int a2), some (.int (mxI a1 a2))]) dX8_next_160 (by decide) rfl ?_
                      refine A_iinc (v := nI (j + 1)) (lo2 := [some (.ref 60), some (.int s), some (.int n), some (.int (q_noBowls σ s n).1), some (.int b), some (.int f), some (.int (nI i)), some (.int (nI (j + 1))), some (.int a1), some (.int a2), some (.int (mxI a1 a2))]) dX8_next_162 rfl (nI_1 _) (by decide) rfl ?_
                      refine A_goto (tgt := 37) dX8_next_165 rfl ?_
                      refine A_forget (lo2 := [some (.ref 60), some (.int s), some (.int n), some (.int (q_noBowls σ s n).1), some (.int b), some (.int f), some (.int (nI i)), some (.int (nI (j + 1))), none, none, none]) ⟨rfl, rfl, rfl, rfl, rfl, rfl, rfl, rfl, trivial⟩ ?_
                      exact ih2 (j + 1) _ _ _ (by omega) (by omega) hs2 hv2 (by rw [zbj_s hij, hmc (fun z => z.elim h_6 (fun z => Int32.not_le.mpr z h_7))]; exact eb) (by rw [zbj_s hij, hmc (fun z => z.elim h_6 (fun z => Int32.not_le.mpr z h_7))]; exact ef)
                    refine A_iload dX8_next_96 rfl ?_
                    refine A_iload dX8_next_98 rfl ?_
                    refine A_icmp_le (tgt := 108) dX8_next_100 rfl (fun h_6 => ?_) (fun h_6 => ?_)
                    · skip
                      refine A_iload dX8_next_108 rfl ?_
                      refine B_top (mx_le h_6) ?_
                      exact tail
                    · skip
                      refine A_iload dX8_next_103 rfl ?_
                      refine A_goto (tgt := 110) dX8_next_105 rfl ?_
                      refine B_top (mx_nle h_6) ?_
                      exact tail
          exact inner ((cN (xN σ)) - (i + 1)) (i + 1) v b f (by omega) (by omega) hs hv (by rw [Nat.sub_self]; exact eb) (by rw [Nat.sub_self]; exact ef)
    exact loop (cN (xN σ)) 0 sg1 _ _ (by omega) (sC.rf sg1) hb2 rfl rfl
  · skip
    refine A_iload_n dX8_next_11 rfl rfl ?_
    exact A_iret dX8_next_12 rfl (hP _ _ (RQ_i (q_nb_q h_1) hR1))
