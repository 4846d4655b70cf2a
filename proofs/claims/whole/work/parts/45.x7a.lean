def zous : List (List Int32) := [[0], [1, 0], [2, 0], [3, 1, 0], [4, 2, 0], [5, 0]]
/-- of a kind or under it -/
def zou (k : Nat) (x : Int32) : Bool := decide (x ∈ zous.getD k [])
set_option maxHeartbeats 600000 in
set_option maxRecDepth 100000 in
theorem c_X7_isShelf (l : Launch) (G : az_Gh) (d : Nat) (sh : List az_Sh) (sg : Nat → Nat → Int32) (la : Nat → Nat → Int64) (s : Int32)  : FM l G (d + 1) mX7_isShelf [.int s] (sh, sg, la) (some (.int (b2i (0 ≤ s ∧ s ≤ 7)))) (sh, sg, la) := by
  refine az_fm knX7_isShelf (Nat.le_of_ble_eq_true rfl) rfl (fun Post hP => ?_)
  show AW l G mX7_isShelf (d + 1) (az_F G Post) 0 0 0 [some (.int s)] [] (sh, sg, la)
  refine A_iload_n dX7_isShelf_0 rfl rfl ?_
  refine A_bipush (v := 7) dX7_isShelf_1 (by decide) ?_
  refine A_callS (n := 0) dX7_isShelf_3 ksX7_isWithin mlX7_73 rfl (c_X7_isWithin l G d sh sg la s 7) (by omega) (Nat.le_refl _) (Nat.le_refl _) rfl (Nat.le_of_ble_eq_true rfl) (fun r S1 hp => ?_)
  obtain ⟨rfl, rfl⟩ := hp
  show AW l G mX7_isShelf (d + 1) (az_F G Post) 0 0 6 [some (.int s)] [.int (b2i (0 ≤ s ∧ s ≤ 7))] (sh, sg, la)
  refine A_zret dX7_isShelf_6 rfl (narrow_b2i _) (az_pi hP ?_ (rfl))
  rfl
set_option maxHeartbeats 600000 in
set_option maxRecDepth 100000 in
theorem c_X7_isKind (l : Launch) (G : az_Gh) (d : Nat) (sh : List az_Sh) (sg : Nat → Nat → Int32) (la : Nat → Nat → Int64) (s : Int32)  : FM l G (d + 1) mX7_isKind [.int s] (sh, sg, la) (some (.int (b2i (0 ≤ s ∧ s ≤ 5)))) (sh, sg, la) := by
  refine az_fm knX7_isKind (Nat.le_of_ble_eq_true rfl) rfl (fun Post hP => ?_)
  show AW l G mX7_isKind (d + 1) (az_F G Post) 0 0 0 [some (.int s)] [] (sh, sg, la)
  refine A_iload_n dX7_isKind_0 rfl rfl ?_
  refine A_iconst (v := 5) dX7_isKind_1 (by decide) ?_
  refine A_callS (n := 0) dX7_isKind_2 ksX7_isWithin mlX7_73 rfl (c_X7_isWithin l G d sh sg la s 5) (by omega) (Nat.le_refl _) (Nat.le_refl _) rfl (Nat.le_of_ble_eq_true rfl) (fun r S1 hp => ?_)
  obtain ⟨rfl, rfl⟩ := hp
  show AW l G mX7_isKind (d + 1) (az_F G Post) 0 0 5 [some (.int s)] [.int (b2i (0 ≤ s ∧ s ≤ 5))] (sh, sg, la)
  refine A_zret dX7_isKind_5 rfl (narrow_b2i _) (az_pi hP ?_ (rfl))
  rfl
set_option maxHeartbeats 600000 in
set_option maxRecDepth 100000 in
theorem c_X7_isOfOrUnder_0 (l : Launch) (G : az_Gh) (d : Nat) (sh : List az_Sh) (sg : Nat → Nat → Int32) (la : Nat → Nat → Int64) (x : Int32)  : FM l G (d + 2) mX7_isOfOrUnder [.int 0, .int x] (sh, sg, la) (some (.int (b2i (zou 0 x = true)))) (sh, sg, la) := by
  refine az_fm knX7_isOfOrUnder (Nat.le_of_ble_eq_true rfl) rfl (fun Post hP => ?_)
  show AW l G mX7_isOfOrUnder (d + 2) (az_F G Post) 0 0 0 [some (.int 0), some (.int x), none, none] [] (sh, sg, la)
  refine A_iload_n dX7_isOfOrUnder_0 rfl rfl ?_
  refine A_istore_n (lo2 := [some (.int 0), some (.int x), some (.int 0), none]) dX7_isOfOrUnder_1 rfl (by decide) rfl ?_
  refine A_iconst (v := 0) dX7_isOfOrUnder_2 (by decide) ?_
  refine A_istore_n (lo2 := [some (.int 0), some (.int x), some (.int 0), some (.int 0)]) dX7_isOfOrUnder_3 rfl (by decide) rfl ?_
  refine A_iload_n dX7_isOfOrUnder_4 rfl rfl ?_
  refine A_bipush (v := 6) dX7_isOfOrUnder_5 (by decide) ?_
  refine A_icmp_ge (tgt := 36) dX7_isOfOrUnder_7 rfl (fun h_1 => ?_) (fun h_1 => ?_)
  · skip
    exact absurd h_1 (by decide)
  · skip
    refine A_iload_n dX7_isOfOrUnder_10 rfl rfl ?_
    refine A_callS (n := 0) dX7_isOfOrUnder_11 ksX7_isKind mlX7_134 rfl (c_X7_isKind l G d sh sg la 0) (by omega) (Nat.le_refl _) (Nat.le_refl _) rfl (Nat.le_of_ble_eq_true rfl) (fun r S1 hp => ?_)
    obtain ⟨rfl, rfl⟩ := hp
    show AW l G mX7_isOfOrUnder (d + 2) (az_F G Post) 0 0 14 [some (.int 0), some (.int x), some (.int 0), some (.int 0)] [.int (b2i (0 ≤ 0 ∧ 0 ≤ 5))] (sh, sg, la)
    refine B_top (show b2i (0 ≤ (0 : Int32) ∧ (0 : Int32) ≤ 5) = 1 by decide) ?_
    refine A_if_eq (tgt := 36) dX7_isOfOrUnder_14 rfl (fun h_2 => ?_) (fun h_2 => ?_)
    · skip
      exact absurd h_2 (by decide)
    · skip
      refine A_iload_n dX7_isOfOrUnder_17 rfl rfl ?_
      refine A_iload_n dX7_isOfOrUnder_18 rfl rfl ?_
      refine A_icmp_ne (tgt := 24) dX7_isOfOrUnder_19 rfl (fun h_3 => ?_) (fun h_3 => ?_)
      · skip
        refine A_gets (k := 1000) dX7_isOfOrUnder_24 (by decide) (fun U h => h.2.2.2.2.2.1.1) flX7_347 ?_
        refine A_iload_n dX7_isOfOrUnder_27 rfl rfl ?_
        refine A_eald (i := 0) dX7_isOfOrUnder_28 (by decide) (by decide) (show 0 < 6 from by decide) (show 6 < 2 ^ 31 from by decide) (rfl) ?_
        refine B_top (show (az_ex G 1000).2 0 = (-1) from rfl) ?_
        refine A_istore_n (lo2 := [some (.int 0), some (.int x), some (.int (-1)), some (.int 0)]) dX7_isOfOrUnder_29 rfl (by decide) rfl ?_
        refine A_iinc (v := 1) (lo2 := [some (.int 0), some (.int x), some (.int (-1)), some (.int 1)]) dX7_isOfOrUnder_30 rfl (by decide) (by decide) rfl ?_
        refine A_goto (tgt := 4) dX7_isOfOrUnder_33 rfl ?_
        refine A_iload_n dX7_isOfOrUnder_4 rfl rfl ?_
        refine A_bipush (v := 6) dX7_isOfOrUnder_5 (by decide) ?_
        refine A_icmp_ge (tgt := 36) dX7_isOfOrUnder_7 rfl (fun h_4 => ?_) (fun h_4 => ?_)
        · skip
          exact absurd h_4 (by decide)
        · skip
          refine A_iload_n dX7_isOfOrUnder_10 rfl rfl ?_
          refine A_callS (n := 0) dX7_isOfOrUnder_11 ksX7_isKind mlX7_134 rfl (c_X7_isKind l G d sh sg la (-1)) (by omega) (Nat.le_refl _) (Nat.le_refl _) rfl (Nat.le_of_ble_eq_true rfl) (fun r S1 hp => ?_)
          obtain ⟨rfl, rfl⟩ := hp
          show AW l G mX7_isOfOrUnder (d + 2) (az_F G Post) 0 0 14 [some (.int 0), some (.int x), some (.int (-1)), some (.int 1)] [.int (b2i (0 ≤ (-1) ∧ (-1) ≤ 5))] (sh, sg, la)
          refine B_top (show b2i (0 ≤ (-1 : Int32) ∧ (-1 : Int32) ≤ 5) = 0 by decide) ?_
          refine A_if_eq (tgt := 36) dX7_isOfOrUnder_14 rfl (fun h_5 => ?_) (fun h_5 => ?_)
          · skip
            refine A_iconst (v := 0) dX7_isOfOrUnder_36 (by decide) ?_
            refine A_zret dX7_isOfOrUnder_37 rfl (rfl) (az_pi hP ?_ (rfl))
            exact b2i_f (fun q => h_3 (List.mem_singleton.mp (show x ∈ ([0] : List Int32) from of_decide_eq_true q)).symm)
          · skip
            exact absurd (by decide) h_5
      · skip
        refine A_iconst (v := 1) dX7_isOfOrUnder_22 (by decide) ?_
        refine A_zret dX7_isOfOrUnder_23 rfl (rfl) (az_pi hP ?_ (rfl))
        exact b2i_t (decide_eq_true (show x ∈ ([0] : List Int32) from by rw [← h_3]; decide))
set_option maxHeartbeats 600000 in
set_option maxRecDepth 100000 in
theorem c_X7_isOfOrUnder_1 (l : Launch) (G : az_Gh) (d : Nat) (sh : List az_Sh) (sg : Nat → Nat → Int32) (la : Nat → Nat → Int64) (x : Int32)  : FM l G (d + 2) mX7_isOfOrUnder [.int 1, .int x] (sh, sg, la) (some (.int (b2i (zou 1 x = true)))) (sh, sg, la) := by
  refine az_fm knX7_isOfOrUnder (Nat.le_of_ble_eq_true rfl) rfl (fun Post hP => ?_)
  show AW l G mX7_isOfOrUnder (d + 2) (az_F G Post) 0 0 0 [some (.int 1), some (.int x), none, none] [] (sh, sg, la)
  refine A_iload_n dX7_isOfOrUnder_0 rfl rfl ?_
  refine A_istore_n (lo2 := [some (.int 1), some (.int x), some (.int 1), none]) dX7_isOfOrUnder_1 rfl (by decide) rfl ?_
  refine A_iconst (v := 0) dX7_isOfOrUnder_2 (by decide) ?_
  refine A_istore_n (lo2 := [some (.int 1), some (.int x), some (.int 1), some (.int 0)]) dX7_isOfOrUnder_3 rfl (by decide) rfl ?_
  refine A_iload_n dX7_isOfOrUnder_4 rfl rfl ?_
  refine A_bipush (v := 6) dX7_isOfOrUnder_5 (by decide) ?_
  refine A_icmp_ge (tgt := 36) dX7_isOfOrUnder_7 rfl (fun h_1 => ?_) (fun h_1 => ?_)
  · skip
    exact absurd h_1 (by decide)
  · skip
    refine A_iload_n dX7_isOfOrUnder_10 rfl rfl ?_
    refine A_callS (n := 0) dX7_isOfOrUnder_11 ksX7_isKind mlX7_134 rfl (c_X7_isKind l G d sh sg la 1) (by omega) (Nat.le_refl _) (Nat.le_refl _) rfl (Nat.le_of_ble_eq_true rfl) (fun r S1 hp => ?_)
    obtain ⟨rfl, rfl⟩ := hp
    show AW l G mX7_isOfOrUnder (d + 2) (az_F G Post) 0 0 14 [some (.int 1), some (.int x), some (.int 1), some (.int 0)] [.int (b2i (0 ≤ 1 ∧ 1 ≤ 5))] (sh, sg, la)
    refine B_top (show b2i (0 ≤ (1 : Int32) ∧ (1 : Int32) ≤ 5) = 1 by decide) ?_
    refine A_if_eq (tgt := 36) dX7_isOfOrUnder_14 rfl (fun h_2 => ?_) (fun h_2 => ?_)
    · skip
      exact absurd h_2 (by decide)
    · skip
      refine A_iload_n dX7_isOfOrUnder_17 rfl rfl ?_
      refine A_iload_n dX7_isOfOrUnder_18 rfl rfl ?_
      refine A_icmp_ne (tgt := 24) dX7_isOfOrUnder_19 rfl (fun h_3 => ?_) (fun h_3 => ?_)
      · skip
        refine A_gets (k := 1000) dX7_isOfOrUnder_24 (by decide) (fun U h => h.2.2.2.2.2.1.1) flX7_347 ?_
        refine A_iload_n dX7_isOfOrUnder_27 rfl rfl ?_
        refine A_eald (i := 1) dX7_isOfOrUnder_28 (by decide) (by decide) (show 1 < 6 from by decide) (show 6 < 2 ^ 31 from by decide) (rfl) ?_
        refine B_top (show (az_ex G 1000).2 1 = 0 from rfl) ?_
        refine A_istore_n (lo2 := [some (.int 1), some (.int x), some (.int 0), some (.int 0)]) dX7_isOfOrUnder_29 rfl (by decide) rfl ?_
        refine A_iinc (v := 1) (lo2 := [some (.int 1), some (.int x), some (.int 0), some (.int 1)]) dX7_isOfOrUnder_30 rfl (by decide) (by decide) rfl ?_
        refine A_goto (tgt := 4) dX7_isOfOrUnder_33 rfl ?_
        refine A_iload_n dX7_isOfOrUnder_4 rfl rfl ?_
        refine A_bipush (v := 6) dX7_isOfOrUnder_5 (by decide) ?_
        refine A_icmp_ge (tgt := 36) dX7_isOfOrUnder_7 rfl (fun h_4 => ?_) (fun h_4 => ?_)
        · skip
          exact absurd h_4 (by decide)
        · skip
          refine A_iload_n dX7_isOfOrUnder_10 rfl rfl ?_
          refine A_callS (n := 0) dX7_isOfOrUnder_11 ksX7_isKind mlX7_134 rfl (c_X7_isKind l G d sh sg la 0) (by omega) (Nat.le_refl _) (Nat.le_refl _) rfl (Nat.le_of_ble_eq_true rfl) (fun r S1 hp => ?_)
          obtain ⟨rfl, rfl⟩ := hp
          show AW l G mX7_isOfOrUnder (d + 2) (az_F G Post) 0 0 14 [some (.int 1), some (.int x), some (.int 0), some (.int 1)] [.int (b2i (0 ≤ 0 ∧ 0 ≤ 5))] (sh, sg, la)
          refine B_top (show b2i (0 ≤ (0 : Int32) ∧ (0 : Int32) ≤ 5) = 1 by decide) ?_
          refine A_if_eq (tgt := 36) dX7_isOfOrUnder_14 rfl (fun h_5 => ?_) (fun h_5 => ?_)
          · skip
            exact absurd h_5 (by decide)
          · skip
            refine A_iload_n dX7_isOfOrUnder_17 rfl rfl ?_
            refine A_iload_n dX7_isOfOrUnder_18 rfl rfl ?_
            refine A_icmp_ne (tgt := 24) dX7_isOfOrUnder_19 rfl (fun h_6 => ?_) (fun h_6 => ?_)
            · skip
              refine A_gets (k := 1000) dX7_isOfOrUnder_24 (by decide) (fun U h => h.2.2.2.2.2.1.1) flX7_347 ?_
              refine A_iload_n dX7_isOfOrUnder_27 rfl rfl ?_
              refine A_eald (i := 0) dX7_isOfOrUnder_28 (by decide) (by decide) (show 0 < 6 from by decide) (show 6 < 2 ^ 31 from by decide) (rfl) ?_
              refine B_top (show (az_ex G 1000).2 0 = (-1) from rfl) ?_
              refine A_istore_n (lo2 := [some (.int 1), some (.int x), some (.int (-1)), some (.int 1)]) dX7_isOfOrUnder_29 rfl (by decide) rfl ?_
              refine A_iinc (v := 2) (lo2 := [some (.int 1), some (.int x), some (.int (-1)), some (.int 2)]) dX7_isOfOrUnder_30 rfl (by decide) (by decide) rfl ?_
              refine A_goto (tgt := 4) dX7_isOfOrUnder_33 rfl ?_
              refine A_iload_n dX7_isOfOrUnder_4 rfl rfl ?_
              refine A_bipush (v := 6) dX7_isOfOrUnder_5 (by decide) ?_
              refine A_icmp_ge (tgt := 36) dX7_isOfOrUnder_7 rfl (fun h_7 => ?_) (fun h_7 => ?_)
              · skip
                exact absurd h_7 (by decide)
              · skip
                refine A_iload_n dX7_isOfOrUnder_10 rfl rfl ?_
                refine A_callS (n := 0) dX7_isOfOrUnder_11 ksX7_isKind mlX7_134 rfl (c_X7_isKind l G d sh sg la (-1)) (by omega) (Nat.le_refl _) (Nat.le_refl _) rfl (Nat.le_of_ble_eq_true rfl) (fun r S1 hp => ?_)
                obtain ⟨rfl, rfl⟩ := hp
                show AW l G mX7_isOfOrUnder (d + 2) (az_F G Post) 0 0 14 [some (.int 1), some (.int x), some (.int (-1)), some (.int 2)] [.int (b2i (0 ≤ (-1) ∧ (-1) ≤ 5))] (sh, sg, la)
                refine B_top (show b2i (0 ≤ (-1 : Int32) ∧ (-1 : Int32) ≤ 5) = 0 by decide) ?_
                refine A_if_eq (tgt := 36) dX7_isOfOrUnder_14 rfl (fun h_8 => ?_) (fun h_8 => ?_)
                · skip
                  refine A_iconst (v := 0) dX7_isOfOrUnder_36 (by decide) ?_
                  refine A_zret dX7_isOfOrUnder_37 rfl (rfl) (az_pi hP ?_ (rfl))
                  exact b2i_f (fun q => by
                    have q2 : x ∈ ([1, 0] : List Int32) := of_decide_eq_true q
                    simp only [List.mem_cons, List.not_mem_nil, or_false] at q2
                    rcases q2 with q3 | q3
                    · exact h_3 q3.symm
                    · exact h_6 q3.symm)
                · skip
                  exact absurd (by decide) h_8
            · skip
              refine A_iconst (v := 1) dX7_isOfOrUnder_22 (by decide) ?_
              refine A_zret dX7_isOfOrUnder_23 rfl (rfl) (az_pi hP ?_ (rfl))
              exact b2i_t (decide_eq_true (show x ∈ ([1, 0] : List Int32) from by rw [← h_6]; decide))
      · skip
        refine A_iconst (v := 1) dX7_isOfOrUnder_22 (by decide) ?_
        refine A_zret dX7_isOfOrUnder_23 rfl (rfl) (az_pi hP ?_ (rfl))
        exact b2i_t (decide_eq_true (show x ∈ ([1, 0] : List Int32) from by rw [← h_3]; decide))
set_option maxHeartbeats 600000 in
set_option maxRecDepth 100000 in
theorem c_X7_isOfOrUnder_2 (l : Launch) (G : az_Gh) (d : Nat) (sh : List az_Sh) (sg : Nat → Nat → Int32) (la : Nat → Nat → Int64) (x : Int32)  : FM l G (d + 2) mX7_isOfOrUnder [.int 2, .int x] (sh, sg, la) (some (.int (b2i (zou 2 x = true)))) (sh, sg, la) := by
  refine az_fm knX7_isOfOrUnder (Nat.le_of_ble_eq_true rfl) rfl (fun Post hP => ?_)
  show AW l G mX7_isOfOrUnder (d + 2) (az_F G Post) 0 0 0 [some (.int 2), some (.int x), none, none] [] (sh, sg, la)
  refine A_iload_n dX7_isOfOrUnder_0 rfl rfl ?_
  refine A_istore_n (lo2 := [some (.int 2), some (.int x), some (.int 2), none]) dX7_isOfOrUnder_1 rfl (by decide) rfl ?_
  refine A_iconst (v := 0) dX7_isOfOrUnder_2 (by decide) ?_
  refine A_istore_n (lo2 := [some (.int 2), some (.int x), some (.int 2), some (.int 0)]) dX7_isOfOrUnder_3 rfl (by decide) rfl ?_
  refine A_iload_n dX7_isOfOrUnder_4 rfl rfl ?_
  refine A_bipush (v := 6) dX7_isOfOrUnder_5 (by decide) ?_
  refine A_icmp_ge (tgt := 36) dX7_isOfOrUnder_7 rfl (fun h_1 => ?_) (fun h_1 => ?_)
  · skip
    exact absurd h_1 (by decide)
  · skip
    refine A_iload_n dX7_isOfOrUnder_10 rfl rfl ?_
    refine A_callS (n := 0) dX7_isOfOrUnder_11 ksX7_isKind mlX7_134 rfl (c_X7_isKind l G d sh sg la 2) (by omega) (Nat.le_refl _) (Nat.le_refl _) rfl (Nat.le_of_ble_eq_true rfl) (fun r S1 hp => ?_)
    obtain ⟨rfl, rfl⟩ := hp
    show AW l G mX7_isOfOrUnder (d + 2) (az_F G Post) 0 0 14 [some (.int 2), some (.int x), some (.int 2), some (.int 0)] [.int (b2i (0 ≤ 2 ∧ 2 ≤ 5))] (sh, sg, la)
    refine B_top (show b2i (0 ≤ (2 : Int32) ∧ (2 : Int32) ≤ 5) = 1 by decide) ?_
    refine A_if_eq (tgt := 36) dX7_isOfOrUnder_14 rfl (fun h_2 => ?_) (fun h_2 => ?_)
    · skip
      exact absurd h_2 (by decide)
    · skip
      refine A_iload_n dX7_isOfOrUnder_17 rfl rfl ?_
      refine A_iload_n dX7_isOfOrUnder_18 rfl rfl ?_
      refine A_icmp_ne (tgt := 24) dX7_isOfOrUnder_19 rfl (fun h_3 => ?_) (fun h_3 => ?_)
      · skip
        refine A_gets (k := 1000) dX7_isOfOrUnder_24 (by decide) (fun U h => h.2.2.2.2.2.1.1) flX7_347 ?_
        refine A_iload_n dX7_isOfOrUnder_27 rfl rfl ?_
        refine A_eald (i := 2) dX7_isOfOrUnder_28 (by decide) (by decide) (show 2 < 6 from by decide) (show 6 < 2 ^ 31 from by decide) (rfl) ?_
        refine B_top (show (az_ex G 1000).2 2 = 0 from rfl) ?_
        refine A_istore_n (lo2 := [some (.int 2), some (.int x), some (.int 0), some (.int 0)]) dX7_isOfOrUnder_29 rfl (by decide) rfl ?_
        refine A_iinc (v := 1) (lo2 := [some (.int 2), some (.int x), some (.int 0), some (.int 1)]) dX7_isOfOrUnder_30 rfl (by decide) (by decide) rfl ?_
        refine A_goto (tgt := 4) dX7_isOfOrUnder_33 rfl ?_
        refine A_iload_n dX7_isOfOrUnder_4 rfl rfl ?_
        refine A_bipush (v := 6) dX7_isOfOrUnder_5 (by decide) ?_
        refine A_icmp_ge (tgt := 36) dX7_isOfOrUnder_7 rfl (fun h_4 => ?_) (fun h_4 => ?_)
        · skip
          exact absurd h_4 (by decide)
        · skip
          refine A_iload_n dX7_isOfOrUnder_10 rfl rfl ?_
          refine A_callS (n := 0) dX7_isOfOrUnder_11 ksX7_isKind mlX7_134 rfl (c_X7_isKind l G d sh sg la 0) (by omega) (Nat.le_refl _) (Nat.le_refl _) rfl (Nat.le_of_ble_eq_true rfl) (fun r S1 hp => ?_)
          obtain ⟨rfl, rfl⟩ := hp
          show AW l G mX7_isOfOrUnder (d + 2) (az_F G Post) 0 0 14 [some (.int 2), some (.int x), some (.int 0), some (.int 1)] [.int (b2i (0 ≤ 0 ∧ 0 ≤ 5))] (sh, sg, la)
          refine B_top (show b2i (0 ≤ (0 : Int32) ∧ (0 : Int32) ≤ 5) = 1 by decide) ?_
          refine A_if_eq (tgt := 36) dX7_isOfOrUnder_14 rfl (fun h_5 => ?_) (fun h_5 => ?_)
          · skip
            exact absurd h_5 (by decide)
          · skip
            refine A_iload_n dX7_isOfOrUnder_17 rfl rfl ?_
            refine A_iload_n dX7_isOfOrUnder_18 rfl rfl ?_
            refine A_icmp_ne (tgt := 24) dX7_isOfOrUnder_19 rfl (fun h_6 => ?_) (fun h_6 => ?_)
            · skip
              refine A_gets (k := 1000) dX7_isOfOrUnder_24 (by decide) (fun U h => h.2.2.2.2.2.1.1) flX7_347 ?_
              refine A_iload_n dX7_isOfOrUnder_27 rfl rfl ?_
              refine A_eald (i := 0) dX7_isOfOrUnder_28 (by decide) (by decide) (show 0 < 6 from by decide) (show 6 < 2 ^ 31 from by decide) (rfl) ?_
              refine B_top (show (az_ex G 1000).2 0 = (-1) from rfl) ?_
              refine A_istore_n (lo2 := [some (.int 2), some (.int x), some (.int (-1)), some (.int 1)]) dX7_isOfOrUnder_29 rfl (by decide) rfl ?_
              refine A_iinc (v := 2) (lo2 := [some (.int 2), some (.int x), some (.int (-1)), some (.int 2)]) dX7_isOfOrUnder_30 rfl (by decide) (by decide) rfl ?_
              refine A_goto (tgt := 4) dX7_isOfOrUnder_33 rfl ?_
              refine A_iload_n dX7_isOfOrUnder_4 rfl rfl ?_
              refine A_bipush (v := 6) dX7_isOfOrUnder_5 (by decide) ?_
              refine A_icmp_ge (tgt := 36) dX7_isOfOrUnder_7 rfl (fun h_7 => ?_) (fun h_7 => ?_)
              · skip
                exact absurd h_7 (by decide)
              · skip
                refine A_iload_n dX7_isOfOrUnder_10 rfl rfl ?_
                refine A_callS (n := 0) dX7_isOfOrUnder_11 ksX7_isKind mlX7_134 rfl (c_X7_isKind l G d sh sg la (-1)) (by omega) (Nat.le_refl _) (Nat.le_refl _) rfl (Nat.le_of_ble_eq_true rfl) (fun r S1 hp => ?_)
                obtain ⟨rfl, rfl⟩ := hp
                show AW l G mX7_isOfOrUnder (d + 2) (az_F G Post) 0 0 14 [some (.int 2), some (.int x), some (.int (-1)), some (.int 2)] [.int (b2i (0 ≤ (-1) ∧ (-1) ≤ 5))] (sh, sg, la)
                refine B_top (show b2i (0 ≤ (-1 : Int32) ∧ (-1 : Int32) ≤ 5) = 0 by decide) ?_
                refine A_if_eq (tgt := 36) dX7_isOfOrUnder_14 rfl (fun h_8 => ?_) (fun h_8 => ?_)
                · skip
                  refine A_iconst (v := 0) dX7_isOfOrUnder_36 (by decide) ?_
                  refine A_zret dX7_isOfOrUnder_37 rfl (rfl) (az_pi hP ?_ (rfl))
                  exact b2i_f (fun q => by
                    have q2 : x ∈ ([2, 0] : List Int32) := of_decide_eq_true q
                    simp only [List.mem_cons, List.not_mem_nil, or_false] at q2
                    rcases q2 with q3 | q3
                    · exact h_3 q3.symm
                    · exact h_6 q3.symm)
                · skip
                  exact absurd (by decide) h_8
            · skip
              refine A_iconst (v := 1) dX7_isOfOrUnder_22 (by decide) ?_
              refine A_zret dX7_isOfOrUnder_23 rfl (rfl) (az_pi hP ?_ (rfl))
              exact b2i_t (decide_eq_true (show x ∈ ([2, 0] : List Int32) from by rw [← h_6]; decide))
      · skip
        refine A_iconst (v := 1) dX7_isOfOrUnder_22 (by decide) ?_
        refine A_zret dX7_isOfOrUnder_23 rfl (rfl) (az_pi hP ?_ (rfl))
        exact b2i_t (decide_eq_true (show x ∈ ([2, 0] : List Int32) from by rw [← h_3]; decide))
set_option maxHeartbeats 600000 in
set_option maxRecDepth 100000 in
theorem c_X7_isOfOrUnder_3 (l : Launch) (G : az_Gh) (d : Nat) (sh : List az_Sh) (sg : Nat → Nat → Int32) (la : Nat → Nat → Int64) (x : Int32)  : FM l G (d + 2) mX7_isOfOrUnder [.int 3, .int x] (sh, sg, la) (some (.int (b2i (zou 3 x = true)))) (sh, sg, la) := by
  refine az_fm knX7_isOfOrUnder (Nat.le_of_ble_eq_true rfl) rfl (fun Post hP => ?_)
  show AW l G mX7_isOfOrUnder (d + 2) (az_F G Post) 0 0 0 [some (.int 3), some (.int x), none, none] [] (sh, sg, la)
  refine A_iload_n dX7_isOfOrUnder_0 rfl rfl ?_
  refine A_istore_n (lo2 := [some (.int 3), some (.int x), some (.int 3), none]) dX7_isOfOrUnder_1 rfl (by decide) rfl ?_
  refine A_iconst (v := 0) dX7_isOfOrUnder_2 (by decide) ?_
  refine A_istore_n (lo2 := [some (.int 3), some (.int x), some (.int 3), some (.int 0)]) dX7_isOfOrUnder_3 rfl (by decide) rfl ?_
  refine A_iload_n dX7_isOfOrUnder_4 rfl rfl ?_
  refine A_bipush (v := 6) dX7_isOfOrUnder_5 (by decide) ?_
  refine A_icmp_ge (tgt := 36) dX7_isOfOrUnder_7 rfl (fun h_1 => ?_) (fun h_1 => ?_)
  · skip
    exact absurd h_1 (by decide)
  · skip
    refine A_iload_n dX7_isOfOrUnder_10 rfl rfl ?_
    refine A_callS (n := 0) dX7_isOfOrUnder_11 ksX7_isKind mlX7_134 rfl (c_X7_isKind l G d sh sg la 3) (by omega) (Nat.le_refl _) (Nat.le_refl _) rfl (Nat.le_of_ble_eq_true rfl) (fun r S1 hp => ?_)
    obtain ⟨rfl, rfl⟩ := hp
    show AW l G mX7_isOfOrUnder (d + 2) (az_F G Post) 0 0 14 [some (.int 3), some (.int x), some (.int 3), some (.int 0)] [.int (b2i (0 ≤ 3 ∧ 3 ≤ 5))] (sh, sg, la)
    refine B_top (show b2i (0 ≤ (3 : Int32) ∧ (3 : Int32) ≤ 5) = 1 by decide) ?_
    refine A_if_eq (tgt := 36) dX7_isOfOrUnder_14 rfl (fun h_2 => ?_) (fun h_2 => ?_)
    · skip
      exact absurd h_2 (by decide)
    · skip
      refine A_iload_n dX7_isOfOrUnder_17 rfl rfl ?_
      refine A_iload_n dX7_isOfOrUnder_18 rfl rfl ?_
      refine A_icmp_ne (tgt := 24) dX7_isOfOrUnder_19 rfl (fun h_3 => ?_) (fun h_3 => ?_)
      · skip
        refine A_gets (k := 1000) dX7_isOfOrUnder_24 (by decide) (fun U h => h.2.2.2.2.2.1.1) flX7_347 ?_
        refine A_iload_n dX7_isOfOrUnder_27 rfl rfl ?_
        refine A_eald (i := 3) dX7_isOfOrUnder_28 (by decide) (by decide) (show 3 < 6 from by decide) (show 6 < 2 ^ 31 from by decide) (rfl) ?_
        refine B_top (show (az_ex G 1000).2 3 = 1 from rfl) ?_
        refine A_istore_n (lo2 := [some (.int 3), some (.int x), some (.int 1), some (.int 0)]) dX7_isOfOrUnder_29 rfl (by decide) rfl ?_
        refine A_iinc (v := 1) (lo2 := [some (.int 3), some (.int x), some (.int 1), some (.int 1)]) dX7_isOfOrUnder_30 rfl (by decide) (by decide) rfl ?_
        refine A_goto (tgt := 4) dX7_isOfOrUnder_33 rfl ?_
        refine A_iload_n dX7_isOfOrUnder_4 rfl rfl ?_
        refine A_bipush (v := 6) dX7_isOfOrUnder_5 (by decide) ?_
        refine A_icmp_ge (tgt := 36) dX7_isOfOrUnder_7 rfl (fun h_4 => ?_) (fun h_4 => ?_)
        · skip
          exact absurd h_4 (by decide)
        · skip
          refine A_iload_n dX7_isOfOrUnder_10 rfl rfl ?_
          refine A_callS (n := 0) dX7_isOfOrUnder_11 ksX7_isKind mlX7_134 rfl (c_X7_isKind l G d sh sg la 1) (by omega) (Nat.le_refl _) (Nat.le_refl _) rfl (Nat.le_of_ble_eq_true rfl) (fun r S1 hp => ?_)
          obtain ⟨rfl, rfl⟩ := hp
          show AW l G mX7_isOfOrUnder (d + 2) (az_F G Post) 0 0 14 [some (.int 3), some (.int x), some (.int 1), some (.int 1)] [.int (b2i (0 ≤ 1 ∧ 1 ≤ 5))] (sh, sg, la)
          refine B_top (show b2i (0 ≤ (1 : Int32) ∧ (1 : Int32) ≤ 5) = 1 by decide) ?_
          refine A_if_eq (tgt := 36) dX7_isOfOrUnder_14 rfl (fun h_5 => ?_) (fun h_5 => ?_)
          · skip
            exact absurd h_5 (by decide)
          · skip
            refine A_iload_n dX7_isOfOrUnder_17 rfl rfl ?_
            refine A_iload_n dX7_isOfOrUnder_18 rfl rfl ?_
            refine A_icmp_ne (tgt := 24) dX7_isOfOrUnder_19 rfl (fun h_6 => ?_) (fun h_6 => ?_)
            · skip
              refine A_gets (k := 1000) dX7_isOfOrUnder_24 (by decide) (fun U h => h.2.2.2.2.2.1.1) flX7_347 ?_
              refine A_iload_n dX7_isOfOrUnder_27 rfl rfl ?_
              refine A_eald (i := 1) dX7_isOfOrUnder_28 (by decide) (by decide) (show 1 < 6 from by decide) (show 6 < 2 ^ 31 from by decide) (rfl) ?_
              refine B_top (show (az_ex G 1000).2 1 = 0 from rfl) ?_
              refine A_istore_n (lo2 := [some (.int 3), some (.int x), some (.int 0), some (.int 1)]) dX7_isOfOrUnder_29 rfl (by decide) rfl ?_
              refine A_iinc (v := 2) (lo2 := [some (.int 3), some (.int x), some (.int 0), some (.int 2)]) dX7_isOfOrUnder_30 rfl (by decide) (by decide) rfl ?_
              refine A_goto (tgt := 4) dX7_isOfOrUnder_33 rfl ?_
              refine A_iload_n dX7_isOfOrUnder_4 rfl rfl ?_
              refine A_bipush (v := 6) dX7_isOfOrUnder_5 (by decide) ?_
              refine A_icmp_ge (tgt := 36) dX7_isOfOrUnder_7 rfl (fun h_7 => ?_) (fun h_7 => ?_)
              · skip
                exact absurd h_7 (by decide)
              · skip
                refine A_iload_n dX7_isOfOrUnder_10 rfl rfl ?_
                refine A_callS (n := 0) dX7_isOfOrUnder_11 ksX7_isKind mlX7_134 rfl (c_X7_isKind l G d sh sg la 0) (by omega) (Nat.le_refl _) (Nat.le_refl _) rfl (Nat.le_of_ble_eq_true rfl) (fun r S1 hp => ?_)
                obtain ⟨rfl, rfl⟩ := hp
                show AW l G mX7_isOfOrUnder (d + 2) (az_F G Post) 0 0 14 [some (.int 3), some (.int x), some (.int 0), some (.int 2)] [.int (b2i (0 ≤ 0 ∧ 0 ≤ 5))] (sh, sg, la)
                refine B_top (show b2i (0 ≤ (0 : Int32) ∧ (0 : Int32) ≤ 5) = 1 by decide) ?_
                refine A_if_eq (tgt := 36) dX7_isOfOrUnder_14 rfl (fun h_8 => ?_) (fun h_8 => ?_)
                · skip
                  exact absurd h_8 (by decide)
                · skip
                  refine A_iload_n dX7_isOfOrUnder_17 rfl rfl ?_
                  refine A_iload_n dX7_isOfOrUnder_18 rfl rfl ?_
                  refine A_icmp_ne (tgt := 24) dX7_isOfOrUnder_19 rfl (fun h_9 => ?_) (fun h_9 => ?_)
                  · skip
                    refine A_gets (k := 1000) dX7_isOfOrUnder_24 (by decide) (fun U h => h.2.2.2.2.2.1.1) flX7_347 ?_
                    refine A_iload_n dX7_isOfOrUnder_27 rfl rfl ?_
                    refine A_eald (i := 0) dX7_isOfOrUnder_28 (by decide) (by decide) (show 0 < 6 from by decide) (show 6 < 2 ^ 31 from by decide) (rfl) ?_
                    refine B_top (show (az_ex G 1000).2 0 = (-1) from rfl) ?_
                    refine A_istore_n (lo2 := [some (.int 3), some (.int x), some (.int (-1)), some (.int 2)]) dX7_isOfOrUnder_29 rfl (by decide) rfl ?_
                    refine A_iinc (v := 3) (lo2 := [some (.int 3), some (.int x), some (.int (-1)), some (.int 3)]) dX7_isOfOrUnder_30 rfl (by decide) (by decide) rfl ?_
                    refine A_goto (tgt := 4) dX7_isOfOrUnder_33 rfl ?_
                    refine A_iload_n dX7_isOfOrUnder_4 rfl rfl ?_
                    refine A_bipush (v := 6) dX7_isOfOrUnder_5 (by decide) ?_
                    refine A_icmp_ge (tgt := 36) dX7_isOfOrUnder_7 rfl (fun h_10 => ?_) (fun h_10 => ?_)
                    · skip
                      exact absurd h_10 (by decide)
                    · skip
                      refine A_iload_n dX7_isOfOrUnder_10 rfl rfl ?_
                      refine A_callS (n := 0) dX7_isOfOrUnder_11 ksX7_isKind mlX7_134 rfl (c_X7_isKind l G d sh sg la (-1)) (by omega) (Nat.le_refl _) (Nat.le_refl _) rfl (Nat.le_of_ble_eq_true rfl) (fun r S1 hp => ?_)
                      obtain ⟨rfl, rfl⟩ := hp
                      show AW l G mX7_isOfOrUnder (d + 2) (az_F G Post) 0 0 14 [some (.int 3), some (.int x), some (.int (-1)), some (.int 3)] [.int (b2i (0 ≤ (-1) ∧ (-1) ≤ 5))] (sh, sg, la)
                      refine B_top (show b2i (0 ≤ (-1 : Int32) ∧ (-1 : Int32) ≤ 5) = 0 by decide) ?_
                      refine A_if_eq (tgt := 36) dX7_isOfOrUnder_14 rfl (fun h_11 => ?_) (fun h_11 => ?_)
                      · skip
                        refine A_iconst (v := 0) dX7_isOfOrUnder_36 (by decide) ?_
                        refine A_zret dX7_isOfOrUnder_37 rfl (rfl) (az_pi hP ?_ (rfl))
                        exact b2i_f (fun q => by
                          have q2 : x ∈ ([3, 1, 0] : List Int32) := of_decide_eq_true q
                          simp only [List.mem_cons, List.not_mem_nil, or_false] at q2
                          rcases q2 with q3 | q3 | q3
                          · exact h_3 q3.symm
                          · exact h_6 q3.symm
                          · exact h_9 q3.symm)
                      · skip
                        exact absurd (by decide) h_11
                  · skip
                    refine A_iconst (v := 1) dX7_isOfOrUnder_22 (by decide) ?_
                    refine A_zret dX7_isOfOrUnder_23 rfl (rfl) (az_pi hP ?_ (rfl))
                    exact b2i_t (decide_eq_true (show x ∈ ([3, 1, 0] : List Int32) from by rw [← h_9]; decide))
            · skip
              refine A_iconst (v := 1) dX7_isOfOrUnder_22 (by decide) ?_
              refine A_zret dX7_isOfOrUnder_23 rfl (rfl) (az_pi hP ?_ (rfl))
              exact b2i_t (decide_eq_true (show x ∈ ([3, 1, 0] : List Int32) from by rw [← h_6]; decide))
      · skip
        refine A_iconst (v := 1) dX7_isOfOrUnder_22 (by decide) ?_
        refine A_zret dX7_isOfOrUnder_23 rfl (rfl) (az_pi hP ?_ (rfl))
        exact b2i_t (decide_eq_true (show x ∈ ([3, 1, 0] : List Int32) from by rw [← h_3]; decide))
set_option maxHeartbeats 600000 in
set_option maxRecDepth 100000 in
theorem c_X7_isOfOrUnder_4 (l : Launch) (G : az_Gh) (d : Nat) (sh : List az_Sh) (sg : Nat → Nat → Int32) (la : Nat → Nat → Int64) (x : Int32)  : FM l G (d + 2) mX7_isOfOrUnder [.int 4, .int x] (sh, sg, la) (some (.int (b2i (zou 4 x = true)))) (sh, sg, la) := by
  refine az_fm knX7_isOfOrUnder (Nat.le_of_ble_eq_true rfl) rfl (fun Post hP => ?_)
  show AW l G mX7_isOfOrUnder (d + 2) (az_F G Post) 0 0 0 [some (.int 4), some (.int x), none, none] [] (sh, sg, la)
  refine A_iload_n dX7_isOfOrUnder_0 rfl rfl ?_
  refine A_istore_n (lo2 := [some (.int 4), some (.int x), some (.int 4), none]) dX7_isOfOrUnder_1 rfl (by decide) rfl ?_
  refine A_iconst (v := 0) dX7_isOfOrUnder_2 (by decide) ?_
  refine A_istore_n (lo2 := [some (.int 4), some (.int x), some (.int 4), some (.int 0)]) dX7_isOfOrUnder_3 rfl (by decide) rfl ?_
  refine A_iload_n dX7_isOfOrUnder_4 rfl rfl ?_
  refine A_bipush (v := 6) dX7_isOfOrUnder_5 (by decide) ?_
  refine A_icmp_ge (tgt := 36) dX7_isOfOrUnder_7 rfl (fun h_1 => ?_) (fun h_1 => ?_)
  · skip
    exact absurd h_1 (by decide)
  · skip
    refine A_iload_n dX7_isOfOrUnder_10 rfl rfl ?_
    refine A_callS (n := 0) dX7_isOfOrUnder_11 ksX7_isKind mlX7_134 rfl (c_X7_isKind l G d sh sg la 4) (by omega) (Nat.le_refl _) (Nat.le_refl _) rfl (Nat.le_of_ble_eq_true rfl) (fun r S1 hp => ?_)
    obtain ⟨rfl, rfl⟩ := hp
    show AW l G mX7_isOfOrUnder (d + 2) (az_F G Post) 0 0 14 [some (.int 4), some (.int x), some (.int 4), some (.int 0)] [.int (b2i (0 ≤ 4 ∧ 4 ≤ 5))] (sh, sg, la)
    refine B_top (show b2i (0 ≤ (4 : Int32) ∧ (4 : Int32) ≤ 5) = 1 by decide) ?_
    refine A_if_eq (tgt := 36) dX7_isOfOrUnder_14 rfl (fun h_2 => ?_) (fun h_2 => ?_)
    · skip
      exact absurd h_2 (by decide)
    · skip
      refine A_iload_n dX7_isOfOrUnder_17 rfl rfl ?_
      refine A_iload_n dX7_isOfOrUnder_18 rfl rfl ?_
      refine A_icmp_ne (tgt := 24) dX7_isOfOrUnder_19 rfl (fun h_3 => ?_) (fun h_3 => ?_)
      · skip
        refine A_gets (k := 1000) dX7_isOfOrUnder_24 (by decide) (fun U h => h.2.2.2.2.2.1.1) flX7_347 ?_
        refine A_iload_n dX7_isOfOrUnder_27 rfl rfl ?_
        refine A_eald (i := 4) dX7_isOfOrUnder_28 (by decide) (by decide) (show 4 < 6 from by decide) (show 6 < 2 ^ 31 from by decide) (rfl) ?_
        refine B_top (show (az_ex G 1000).2 4 = 2 from rfl) ?_
        refine A_istore_n (lo2 := [some (.int 4), some (.int x), some (.int 2), some (.int 0)]) dX7_isOfOrUnder_29 rfl (by decide) rfl ?_
        refine A_iinc (v := 1) (lo2 := [some (.int 4), some (.int x), some (.int 2), some (.int 1)]) dX7_isOfOrUnder_30 rfl (by decide) (by decide) rfl ?_
        refine A_goto (tgt := 4) dX7_isOfOrUnder_33 rfl ?_
        refine A_iload_n dX7_isOfOrUnder_4 rfl rfl ?_
        refine A_bipush (v := 6) dX7_isOfOrUnder_5 (by decide) ?_
        refine A_icmp_ge (tgt := 36) dX7_isOfOrUnder_7 rfl (fun h_4 => ?_) (fun h_4 => ?_)
        · skip
          exact absurd h_4 (by decide)
        · skip
          refine A_iload_n dX7_isOfOrUnder_10 rfl rfl ?_
          refine A_callS (n := 0) dX7_isOfOrUnder_11 ksX7_isKind mlX7_134 rfl (c_X7_isKind l G d sh sg la 2) (by omega) (Nat.le_refl _) (Nat.le_refl _) rfl (Nat.le_of_ble_eq_true rfl) (fun r S1 hp => ?_)
          obtain ⟨rfl, rfl⟩ := hp
          show AW l G mX7_isOfOrUnder (d + 2) (az_F G Post) 0 0 14 [some (.int 4), some (.int x), some (.int 2), some (.int 1)] [.int (b2i (0 ≤ 2 ∧ 2 ≤ 5))] (sh, sg, la)
          refine B_top (show b2i (0 ≤ (2 : Int32) ∧ (2 : Int32) ≤ 5) = 1 by decide) ?_
          refine A_if_eq (tgt := 36) dX7_isOfOrUnder_14 rfl (fun h_5 => ?_) (fun h_5 => ?_)
          · skip
            exact absurd h_5 (by decide)
          · skip
            refine A_iload_n dX7_isOfOrUnder_17 rfl rfl ?_
            refine A_iload_n dX7_isOfOrUnder_18 rfl rfl ?_
            refine A_icmp_ne (tgt := 24) dX7_isOfOrUnder_19 rfl (fun h_6 => ?_) (fun h_6 => ?_)
            · skip
              refine A_gets (k := 1000) dX7_isOfOrUnder_24 (by decide) (fun U h => h.2.2.2.2.2.1.1) flX7_347 ?_
              refine A_iload_n dX7_isOfOrUnder_27 rfl rfl ?_
              refine A_eald (i := 2) dX7_isOfOrUnder_28 (by decide) (by decide) (show 2 < 6 from by decide) (show 6 < 2 ^ 31 from by decide) (rfl) ?_
              refine B_top (show (az_ex G 1000).2 2 = 0 from rfl) ?_
              refine A_istore_n (lo2 := [some (.int 4), some (.int x), some (.int 0), some (.int 1)]) dX7_isOfOrUnder_29 rfl (by decide) rfl ?_
              refine A_iinc (v := 2) (lo2 := [some (.int 4), some (.int x), some (.int 0), some (.int 2)]) dX7_isOfOrUnder_30 rfl (by decide) (by decide) rfl ?_
              refine A_goto (tgt := 4) dX7_isOfOrUnder_33 rfl ?_
              refine A_iload_n dX7_isOfOrUnder_4 rfl rfl ?_
              refine A_bipush (v := 6) dX7_isOfOrUnder_5 (by decide) ?_
              refine A_icmp_ge (tgt := 36) dX7_isOfOrUnder_7 rfl (fun h_7 => ?_) (fun h_7 => ?_)
              · skip
                exact absurd h_7 (by decide)
              · skip
                refine A_iload_n dX7_isOfOrUnder_10 rfl rfl ?_
                refine A_callS (n := 0) dX7_isOfOrUnder_11 ksX7_isKind mlX7_134 rfl (c_X7_isKind l G d sh sg la 0) (by omega) (Nat.le_refl _) (Nat.le_refl _) rfl (Nat.le_of_ble_eq_true rfl) (fun r S1 hp => ?_)
                obtain ⟨rfl, rfl⟩ := hp
                show AW l G mX7_isOfOrUnder (d + 2) (az_F G Post) 0 0 14 [some (.int 4), some (.int x), some (.int 0), some (.int 2)] [.int (b2i (0 ≤ 0 ∧ 0 ≤ 5))] (sh, sg, la)
                refine B_top (show b2i (0 ≤ (0 : Int32) ∧ (0 : Int32) ≤ 5) = 1 by decide) ?_
                refine A_if_eq (tgt := 36) dX7_isOfOrUnder_14 rfl (fun h_8 => ?_) (fun h_8 => ?_)
                · skip
                  exact absurd h_8 (by decide)
                · skip
                  refine A_iload_n dX7_isOfOrUnder_17 rfl rfl ?_
                  refine A_iload_n dX7_isOfOrUnder_18 rfl rfl ?_
                  refine A_icmp_ne (tgt := 24) dX7_isOfOrUnder_19 rfl (fun h_9 => ?_) (fun h_9 => ?_)
                  · skip
                    refine A_gets (k := 1000) dX7_isOfOrUnder_24 (by decide) (fun U h => h.2.2.2.2.2.1.1) flX7_347 ?_
                    refine A_iload_n dX7_isOfOrUnder_27 rfl rfl ?_
                    refine A_eald (i := 0) dX7_isOfOrUnder_28 (by decide) (by decide) (show 0 < 6 from by decide) (show 6 < 2 ^ 31 from by decide) (rfl) ?_
                    refine B_top (show (az_ex G 1000).2 0 = (-1) from rfl) ?_
                    refine A_istore_n (lo2 := [some (.int 4), some (.int x), some (.int (-1)), some (.int 2)]) dX7_isOfOrUnder_29 rfl (by decide) rfl ?_
                    refine A_iinc (v := 3) (lo2 := [some (.int 4), some (.int x), some (.int (-1)), some (.int 3)]) dX7_isOfOrUnder_30 rfl (by decide) (by decide) rfl ?_
                    refine A_goto (tgt := 4) dX7_isOfOrUnder_33 rfl ?_
                    refine A_iload_n dX7_isOfOrUnder_4 rfl rfl ?_
                    refine A_bipush (v := 6) dX7_isOfOrUnder_5 (by decide) ?_
                    refine A_icmp_ge (tgt := 36) dX7_isOfOrUnder_7 rfl (fun h_10 => ?_) (fun h_10 => ?_)
                    · skip
                      exact absurd h_10 (by decide)
                    · skip
                      refine A_iload_n dX7_isOfOrUnder_10 rfl rfl ?_
                      refine A_callS (n := 0) dX7_isOfOrUnder_11 ksX7_isKind mlX7_134 rfl (c_X7_isKind l G d sh sg la (-1)) (by omega) (Nat.le_refl _) (Nat.le_refl _) rfl (Nat.le_of_ble_eq_true rfl) (fun r S1 hp => ?_)
                      obtain ⟨rfl, rfl⟩ := hp
                      show AW l G mX7_isOfOrUnder (d + 2) (az_F G Post) 0 0 14 [some (.int 4), some (.int x), some (.int (-1)), some (.int 3)] [.int (b2i (0 ≤ (-1) ∧ (-1) ≤ 5))] (sh, sg, la)
                      refine B_top (show b2i (0 ≤ (-1 : Int32) ∧ (-1 : Int32) ≤ 5) = 0 by decide) ?_
                      refine A_if_eq (tgt := 36) dX7_isOfOrUnder_14 rfl (fun h_11 => ?_) (fun h_11 => ?_)
                      · skip
                        refine A_iconst (v := 0) dX7_isOfOrUnder_36 (by decide) ?_
                        refine A_zret dX7_isOfOrUnder_37 rfl (rfl) (az_pi hP ?_ (rfl))
                        exact b2i_f (fun q => by
                          have q2 : x ∈ ([4, 2, 0] : List Int32) := of_decide_eq_true q
                          simp only [List.mem_cons, List.not_mem_nil, or_false] at q2
                          rcases q2 with q3 | q3 | q3
                          · exact h_3 q3.symm
                          · exact h_6 q3.symm
                          · exact h_9 q3.symm)
                      · skip
                        exact absurd (by decide) h_11
                  · skip
                    refine A_iconst (v := 1) dX7_isOfOrUnder_22 (by decide) ?_
                    refine A_zret dX7_isOfOrUnder_23 rfl (rfl) (az_pi hP ?_ (rfl))
                    exact b2i_t (decide_eq_true (show x ∈ ([4, 2, 0] : List Int32) from by rw [← h_9]; decide))
            · skip
              refine A_iconst (v := 1) dX7_isOfOrUnder_22 (by decide) ?_
              refine A_zret dX7_isOfOrUnder_23 rfl (rfl) (az_pi hP ?_ (rfl))
              exact b2i_t (decide_eq_true (show x ∈ ([4, 2, 0] : List Int32) from by rw [← h_6]; decide))
      · skip
        refine A_iconst (v := 1) dX7_isOfOrUnder_22 (by decide) ?_
        refine A_zret dX7_isOfOrUnder_23 rfl (rfl) (az_pi hP ?_ (rfl))
        exact b2i_t (decide_eq_true (show x ∈ ([4, 2, 0] : List Int32) from by rw [← h_3]; decide))
set_option maxHeartbeats 600000 in
set_option maxRecDepth 100000 in
theorem c_X7_isOfOrUnder_5 (l : Launch) (G : az_Gh) (d : Nat) (sh : List az_Sh) (sg : Nat → Nat → Int32) (la : Nat → Nat → Int64) (x : Int32)  : FM l G (d + 2) mX7_isOfOrUnder [.int 5, .int x] (sh, sg, la) (some (.int (b2i (zou 5 x = true)))) (sh, sg, la) := by
  refine az_fm knX7_isOfOrUnder (Nat.le_of_ble_eq_true rfl) rfl (fun Post hP => ?_)
  show AW l G mX7_isOfOrUnder (d + 2) (az_F G Post) 0 0 0 [some (.int 5), some (.int x), none, none] [] (sh, sg, la)
  refine A_iload_n dX7_isOfOrUnder_0 rfl rfl ?_
  refine A_istore_n (lo2 := [some (.int 5), some (.int x), some (.int 5), none]) dX7_isOfOrUnder_1 rfl (by decide) rfl ?_
  refine A_iconst (v := 0) dX7_isOfOrUnder_2 (by decide) ?_
  refine A_istore_n (lo2 := [some (.int 5), some (.int x), some (.int 5), some (.int 0)]) dX7_isOfOrUnder_3 rfl (by decide) rfl ?_
  refine A_iload_n dX7_isOfOrUnder_4 rfl rfl ?_
  refine A_bipush (v := 6) dX7_isOfOrUnder_5 (by decide) ?_
  refine A_icmp_ge (tgt := 36) dX7_isOfOrUnder_7 rfl (fun h_1 => ?_) (fun h_1 => ?_)
  · skip
    exact absurd h_1 (by decide)
  · skip
    refine A_iload_n dX7_isOfOrUnder_10 rfl rfl ?_
    refine A_callS (n := 0) dX7_isOfOrUnder_11 ksX7_isKind mlX7_134 rfl (c_X7_isKind l G d sh sg la 5) (by omega) (Nat.le_refl _) (Nat.le_refl _) rfl (Nat.le_of_ble_eq_true rfl) (fun r S1 hp => ?_)
    obtain ⟨rfl, rfl⟩ := hp
    show AW l G mX7_isOfOrUnder (d + 2) (az_F G Post) 0 0 14 [some (.int 5), some (.int x), some (.int 5), some (.int 0)] [.int (b2i (0 ≤ 5 ∧ 5 ≤ 5))] (sh, sg, la)
    refine B_top (show b2i (0 ≤ (5 : Int32) ∧ (5 : Int32) ≤ 5) = 1 by decide) ?_
    refine A_if_eq (tgt := 36) dX7_isOfOrUnder_14 rfl (fun h_2 => ?_) (fun h_2 => ?_)
    · skip
      exact absurd h_2 (by decide)
    · skip
      refine A_iload_n dX7_isOfOrUnder_17 rfl rfl ?_
      refine A_iload_n dX7_isOfOrUnder_18 rfl rfl ?_
      refine A_icmp_ne (tgt := 24) dX7_isOfOrUnder_19 rfl (fun h_3 => ?_) (fun h_3 => ?_)
      · skip
        refine A_gets (k := 1000) dX7_isOfOrUnder_24 (by decide) (fun U h => h.2.2.2.2.2.1.1) flX7_347 ?_
        refine A_iload_n dX7_isOfOrUnder_27 rfl rfl ?_
        refine A_eald (i := 5) dX7_isOfOrUnder_28 (by decide) (by decide) (show 5 < 6 from by decide) (show 6 < 2 ^ 31 from by decide) (rfl) ?_
        refine B_top (show (az_ex G 1000).2 5 = 0 from rfl) ?_
        refine A_istore_n (lo2 := [some (.int 5), some (.int x), some (.int 0), some (.int 0)]) dX7_isOfOrUnder_29 rfl (by decide) rfl ?_
        refine A_iinc (v := 1) (lo2 := [some (.int 5), some (.int x), some (.int 0), some (.int 1)]) dX7_isOfOrUnder_30 rfl (by decide) (by decide) rfl ?_
        refine A_goto (tgt := 4) dX7_isOfOrUnder_33 rfl ?_
        refine A_iload_n dX7_isOfOrUnder_4 rfl rfl ?_
        refine A_bipush (v := 6) dX7_isOfOrUnder_5 (by decide) ?_
        refine A_icmp_ge (tgt := 36) dX7_isOfOrUnder_7 rfl (fun h_4 => ?_) (fun h_4 => ?_)
        · skip
          exact absurd h_4 (by decide)
        · skip
          refine A_iload_n dX7_isOfOrUnder_10 rfl rfl ?_
          refine A_callS (n := 0) dX7_isOfOrUnder_11 ksX7_isKind mlX7_134 rfl (c_X7_isKind l G d sh sg la 0) (by omega) (Nat.le_refl _) (Nat.le_refl _) rfl (Nat.le_of_ble_eq_true rfl) (fun r S1 hp => ?_)
          obtain ⟨rfl, rfl⟩ := hp
          show AW l G mX7_isOfOrUnder (d + 2) (az_F G Post) 0 0 14 [some (.int 5), some (.int x), some (.int 0), some (.int 1)] [.int (b2i (0 ≤ 0 ∧ 0 ≤ 5))] (sh, sg, la)
          refine B_top (show b2i (0 ≤ (0 : Int32) ∧ (0 : Int32) ≤ 5) = 1 by decide) ?_
          refine A_if_eq (tgt := 36) dX7_isOfOrUnder_14 rfl (fun h_5 => ?_) (fun h_5 => ?_)
          · skip
            exact absurd h_5 (by decide)
          · skip
            refine A_iload_n dX7_isOfOrUnder_17 rfl rfl ?_
            refine A_iload_n dX7_isOfOrUnder_18 rfl rfl ?_
            refine A_icmp_ne (tgt := 24) dX7_isOfOrUnder_19 rfl (fun h_6 => ?_) (fun h_6 => ?_)
            · skip
              refine A_gets (k := 1000) dX7_isOfOrUnder_24 (by decide) (fun U h => h.2.2.2.2.2.1.1) flX7_347 ?_
              refine A_iload_n dX7_isOfOrUnder_27 rfl rfl ?_
              refine A_eald (i := 0) dX7_isOfOrUnder_28 (by decide) (by decide) (show 0 < 6 from by decide) (show 6 < 2 ^ 31 from by decide) (rfl) ?_
              refine B_top (show (az_ex G 1000).2 0 = (-1) from rfl) ?_
              refine A_istore_n (lo2 := [some (.int 5), some (.int x), some (.int (-1)), some (.int 1)]) dX7_isOfOrUnder_29 rfl (by decide) rfl ?_
              refine A_iinc (v := 2) (lo2 := [some (.int 5), some (.int x), some (.int (-1)), some (.int 2)]) dX7_isOfOrUnder_30 rfl (by decide) (by decide) rfl ?_
              refine A_goto (tgt := 4) dX7_isOfOrUnder_33 rfl ?_
              refine A_iload_n dX7_isOfOrUnder_4 rfl rfl ?_
              refine A_bipush (v := 6) dX7_isOfOrUnder_5 (by decide) ?_
              refine A_icmp_ge (tgt := 36) dX7_isOfOrUnder_7 rfl (fun h_7 => ?_) (fun h_7 => ?_)
              · skip
                exact absurd h_7 (by decide)
              · skip
                refine A_iload_n dX7_isOfOrUnder_10 rfl rfl ?_
                refine A_callS (n := 0) dX7_isOfOrUnder_11 ksX7_isKind mlX7_134 rfl (c_X7_isKind l G d sh sg la (-1)) (by omega) (Nat.le_refl _) (Nat.le_refl _) rfl (Nat.le_of_ble_eq_true rfl) (fun r S1 hp => ?_)
                obtain ⟨rfl, rfl⟩ := hp
                show AW l G mX7_isOfOrUnder (d + 2) (az_F G Post) 0 0 14 [some (.int 5), some (.int x), some (.int (-1)), some (.int 2)] [.int (b2i (0 ≤ (-1) ∧ (-1) ≤ 5))] (sh, sg, la)
                refine B_top (show b2i (0 ≤ (-1 : Int32) ∧ (-1 : Int32) ≤ 5) = 0 by decide) ?_
                refine A_if_eq (tgt := 36) dX7_isOfOrUnder_14 rfl (fun h_8 => ?_) (fun h_8 => ?_)
                · skip
                  refine A_iconst (v := 0) dX7_isOfOrUnder_36 (by decide) ?_
                  refine A_zret dX7_isOfOrUnder_37 rfl (rfl) (az_pi hP ?_ (rfl))
                  exact b2i_f (fun q => by
                    have q2 : x ∈ ([5, 0] : List Int32) := of_decide_eq_true q
                    simp only [List.mem_cons, List.not_mem_nil, or_false] at q2
                    rcases q2 with q3 | q3
                    · exact h_3 q3.symm
                    · exact h_6 q3.symm)
                · skip
                  exact absurd (by decide) h_8
            · skip
              refine A_iconst (v := 1) dX7_isOfOrUnder_22 (by decide) ?_
              refine A_zret dX7_isOfOrUnder_23 rfl (rfl) (az_pi hP ?_ (rfl))
              exact b2i_t (decide_eq_true (show x ∈ ([5, 0] : List Int32) from by rw [← h_6]; decide))
      · skip
        refine A_iconst (v := 1) dX7_isOfOrUnder_22 (by decide) ?_
        refine A_zret dX7_isOfOrUnder_23 rfl (rfl) (az_pi hP ?_ (rfl))
        exact b2i_t (decide_eq_true (show x ∈ ([5, 0] : List Int32) from by rw [← h_3]; decide))
theorem c_X7_isOfOrUnder (l : Launch) (G : az_Gh) (d : Nat) (sh : List az_Sh) (sg : Nat → Nat → Int32) (la : Nat → Nat → Int64) (k : Nat) (x : Int32) (hk : k ≤ 5) : FM l G (d + 2) mX7_isOfOrUnder [.int (nI k), .int x] (sh, sg, la) (some (.int (b2i (zou k x = true)))) (sh, sg, la) := by
  have h : k = 0 ∨ k = 1 ∨ k = 2 ∨ k = 3 ∨ k = 4 ∨ k = 5 := by omega
  rcases h with rfl | rfl | rfl | rfl | rfl | rfl
  · exact c_X7_isOfOrUnder_0 l G d sh sg la x
  · exact c_X7_isOfOrUnder_1 l G d sh sg la x
  · exact c_X7_isOfOrUnder_2 l G d sh sg la x
  · exact c_X7_isOfOrUnder_3 l G d sh sg la x
  · exact c_X7_isOfOrUnder_4 l G d sh sg la x
  · exact c_X7_isOfOrUnder_5 l G d sh sg la x
