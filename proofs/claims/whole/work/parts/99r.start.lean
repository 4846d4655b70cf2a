/-! the law's start and end -/
def lw_LF (G : az_Gh) : az_Fn := fun below _ s mc ms => fun t => G.1 = s.heap.size → ∃ o, t.status = .running ∧ Ended t below o ∧ o = .returned (some (.int 1)) ∧ Framed s o t [] mc ms
theorem A_lwend {l : Launch} {G : az_Gh} {bc bs pc : Nat} {lo : List (Option Value)} {S : az_St} (hdg : decode code pc = .ok (.ireturn, 1)) : AW l G mL_law 2048 (lw_LF G) bc bs pc lo [.int 1] S := by
  intro p e s m args below meth c H locs cells slots mc ms ls hC hH hS h1 h2 hl
  obtain ⟨hx, hb, hml, hr, hown, hts, hlk, ham, hnm⟩ := id hC
  by_cases hG : G.1 = s.heap.size
  · refine W.widen (k := mc) (n := ms) (by omega) (by omega) ?_
    refine va_forget (fun q hq => hG ▸ hS.2.2 q hq) ?_
    show W p l e (az_rm 2048 mc ms) s m args below meth c H [] mc ms (lw_LF G below args s mc ms) (F0 m pc ls [.int 1])
    intro T hT X
    have hr : meth.sig.returnType = ret := hr
    have hb : c.code = code := hb
    obtain ⟨fs, hret, hrun, hended, hW, hframe⟩ := X.leave (v := some (.int 1)) (hlocks := hlk) (fun h => by rw [hr] at h; cases h)
    have hmeth' : T.vm.method? m = some meth := X.method'
    refine ⟨T.setFrames fs, ?_, fun _ => ⟨.returned (some (.int 1)), hrun, hended, rfl, ⟨_, rfl⟩, hW, hframe⟩⟩
    jvm_step X.here [X.here.top, hx, hb, hdg, hmeth', hr, ret, narrow_b1]
    (try refine ⟨rfl, ?_⟩); (try refine ⟨rfl, ?_⟩)
    first | (intro acts; rw [hret _ acts rfl rfl rfl]) | rw [hret _ _ rfl rfl rfl]
    exact Steps.refl _
  · intro T hT X
    exact ⟨_, Steps.refl _, fun h => absurd h hG⟩
theorem lw_refs {args : Array Value} {s : State} {t u : Term} {a b : Nat} (h : (Cond.eq t u).before args s = true) (h1 : t.eval args s none [] s = some (.ref a)) (h2 : u.eval args s none [] s = some (.ref b)) : b = a := by
  simp only [Cond.before, Cond.holds, Cond.value, h1, h2] at h
  simp_all
set_option maxHeartbeats 4000000 in
set_option maxRecDepth 100000 in
theorem az_nest_in : ∀ w ∈ az_nest, w ∈ lw_tbl := by
  intro w hw
  have hp : az_nest = ([91, 96, 97, 99, 101, 102, 103, 105, 106, 108, 109, 110, 111, 113, 114, 115, 116, 118, 119, 120, 122, 123, 125, 127, 129, 131, 166, 171, 174, 182, 187, 203, 208, 218, 234, 240, 258, 263, 265, 267, 269, 439, 586, 737, 844] : List Nat).filterMap (fun i => lw_tbl[i]?) := rfl
  rw [hp] at hw
  obtain ⟨i, -, hi⟩ := List.mem_filterMap.mp hw
  exact List.mem_of_getElem? hi
set_option maxHeartbeats 4000000 in
set_option maxRecDepth 100000 in
theorem lw_cls {args : Array Value} {s : State} (hts : ∀ w ∈ lw_tbl, w.before args s = true) : ∀ c : Nat, ∃ q : ClassId × (Nat → Nat), ∀ r : vw_C, vwCl[c]? = some r → u_Kn s r.1 r.2.1 r.2.2 q.1 q.2 := by
  intro c
  have h9 : c = 0 ∨ c = 1 ∨ c = 2 ∨ c = 3 ∨ c = 4 ∨ c = 5 ∨ c = 6 ∨ c = 7 ∨ c = 8 ∨ 9 ≤ c := by omega
  rcases h9 with rfl | rfl | rfl | rfl | rfl | rfl | rfl | rfl | rfl | h
  · obtain ⟨cC, iS, h⟩ := u_known (ws := az_tb) (fun w hw => hts w (az_tb_in hw)) clX0.2.2.1 (hts _ (az_tb_in in_RX0))
    exact ⟨(cC, iS), fun r hr => by cases hr; exact h⟩
  · obtain ⟨cC, iS, h⟩ := u_known (ws := az_tb) (fun w hw => hts w (az_tb_in hw)) clX1.2.2.1 (hts _ (az_tb_in in_RX1))
    exact ⟨(cC, iS), fun r hr => by cases hr; exact h⟩
  · obtain ⟨cC, iS, h⟩ := u_known (ws := az_tb) (fun w hw => hts w (az_tb_in hw)) clX2.2.2.1 (hts _ (az_tb_in in_RX2))
    exact ⟨(cC, iS), fun r hr => by cases hr; exact h⟩
  · obtain ⟨cC, iS, h⟩ := u_known (ws := az_tb) (fun w hw => hts w (az_tb_in hw)) clX3.2.2.1 (hts _ (az_tb_in in_RX3))
    exact ⟨(cC, iS), fun r hr => by cases hr; exact h⟩
  · obtain ⟨cC, iS, h⟩ := u_known (ws := az_tb) (fun w hw => hts w (az_tb_in hw)) clX4.2.2.1 (hts _ (az_tb_in in_RX4))
    exact ⟨(cC, iS), fun r hr => by cases hr; exact h⟩
  · obtain ⟨cC, iS, h⟩ := u_known (ws := az_tb) (fun w hw => hts w (az_tb_in hw)) clX5.2.2.1 (hts _ (az_tb_in in_RX5))
    exact ⟨(cC, iS), fun r hr => by cases hr; exact h⟩
  · obtain ⟨cC, iS, h⟩ := u_known (ws := az_tb) (fun w hw => hts w (az_tb_in hw)) clX6.2.2.1 (hts _ (az_tb_in in_RX6))
    exact ⟨(cC, iS), fun r hr => by cases hr; exact h⟩
  · obtain ⟨cC, iS, h⟩ := u_known (ws := az_tb) (fun w hw => hts w (az_tb_in hw)) clX7.2.2.1 (hts _ (az_tb_in in_RX7))
    exact ⟨(cC, iS), fun r hr => by cases hr; exact h⟩
  · obtain ⟨cC, iS, h⟩ := u_known (ws := az_tb) (fun w hw => hts w (az_tb_in hw)) clX8.2.2.1 (hts _ (az_tb_in in_RX8))
    exact ⟨(cC, iS), fun r hr => by cases hr; exact h⟩
  · exact ⟨(0, fun _ => 0), fun r hr => by rw [List.getElem?_eq_none (show vwCl.length ≤ c from h)] at hr; cases hr⟩
set_option maxHeartbeats 4000000 in
set_option maxRecDepth 100000 in
theorem lw_st1000 {args : Array Value} {s : State} {A : Nat → Prop} (hs : ∀ w ∈ flatC (Jvm.Cond.and given_1 narrow_1), w.before args s = true) (hts : ∀ w ∈ lw_tbl, w.before args s = true) (hA : ∀ a : Nat, a < s.heap.size → ¬ A a) : ∃ t : Nat, va_Z "ColdestSaysSo" "KIND_ABOVE" "[I" (.ref t) A s s.heap ∧ va_T .int t 6 (fun j => .int (([-1, 0, 0, 1, 2, 0] : List Int32).getD j 0)) A s s.heap := by
  have hel : ∀ j, j < 6 → Cond.eq (.elem (.static "ColdestSaysSo" "KIND_ABOVE" "[I") (.int (Int32.ofNat j))) (.int (([-1, 0, 0, 1, 2, 0] : List Int32).getD j 0)) ∈ flatC (Jvm.Cond.and given_1 narrow_1) := by decide +kernel
  obtain ⟨t, v, hT⟩ := va_Tof (ty := .int) (N := 6) (f := fun j => .int (([-1, 0, 0, 1, 2, 0] : List Int32).getD j 0)) (A := A) (tm := (.static "ColdestSaysSo" "KIND_ABOVE" "[I")) (by decide) (hs _ (by decide +kernel)) (va_eqt (hs _ (by decide +kernel))) (fun j hj => va_eqt (hs _ (hel j hj))) hA
  exact ⟨t, va_Zref (hts _ (List.mem_of_getElem? (i := 419) rfl)) (hts _ (List.mem_of_getElem? (i := 64) rfl)) v hA, hT⟩
set_option maxHeartbeats 4000000 in
set_option maxRecDepth 100000 in
theorem lw_st1001 {args : Array Value} {s : State} {A : Nat → Prop} (hs : ∀ w ∈ flatC (Jvm.Cond.and given_1 narrow_1), w.before args s = true) (hts : ∀ w ∈ lw_tbl, w.before args s = true) (hA : ∀ a : Nat, a < s.heap.size → ¬ A a) : ∃ t : Nat, va_Z "ColdestSaysSo" "MOST_GIVEN" "[I" (.ref t) A s s.heap ∧ va_T .int t 3 (fun j => .int (([20, 9, 40] : List Int32).getD j 0)) A s s.heap := by
  have hel : ∀ j, j < 3 → Cond.eq (.elem (.static "ColdestSaysSo" "MOST_GIVEN" "[I") (.int (Int32.ofNat j))) (.int (([20, 9, 40] : List Int32).getD j 0)) ∈ flatC (Jvm.Cond.and given_1 narrow_1) := by decide +kernel
  obtain ⟨t, v, hT⟩ := va_Tof (ty := .int) (N := 3) (f := fun j => .int (([20, 9, 40] : List Int32).getD j 0)) (A := A) (tm := (.static "ColdestSaysSo" "MOST_GIVEN" "[I")) (by decide) (hs _ (by decide +kernel)) (va_eqt (hs _ (by decide +kernel))) (fun j hj => va_eqt (hs _ (hel j hj))) hA
  exact ⟨t, va_Zref (hts _ (List.mem_of_getElem? (i := 447) rfl)) (hts _ (List.mem_of_getElem? (i := 64) rfl)) v hA, hT⟩
set_option maxHeartbeats 4000000 in
set_option maxRecDepth 100000 in
theorem lw_st1002 {args : Array Value} {s : State} {A : Nat → Prop} (hs : ∀ w ∈ flatC (Jvm.Cond.and given_1 narrow_1), w.before args s = true) (hts : ∀ w ∈ lw_tbl, w.before args s = true) (hA : ∀ a : Nat, a < s.heap.size → ¬ A a) : ∃ t : Nat, va_Z "ColdestSaysSo" "MOST_TOLD" "[I" (.ref t) A s s.heap ∧ va_T .int t 4 (fun j => .int (([40, 5, 999, 9] : List Int32).getD j 0)) A s s.heap := by
  have hel : ∀ j, j < 4 → Cond.eq (.elem (.static "ColdestSaysSo" "MOST_TOLD" "[I") (.int (Int32.ofNat j))) (.int (([40, 5, 999, 9] : List Int32).getD j 0)) ∈ flatC (Jvm.Cond.and given_1 narrow_1) := by decide +kernel
  obtain ⟨t, v, hT⟩ := va_Tof (ty := .int) (N := 4) (f := fun j => .int (([40, 5, 999, 9] : List Int32).getD j 0)) (A := A) (tm := (.static "ColdestSaysSo" "MOST_TOLD" "[I")) (by decide) (hs _ (by decide +kernel)) (va_eqt (hs _ (by decide +kernel))) (fun j hj => va_eqt (hs _ (hel j hj))) hA
  exact ⟨t, va_Zref (hts _ (List.mem_of_getElem? (i := 453) rfl)) (hts _ (List.mem_of_getElem? (i := 64) rfl)) v hA, hT⟩
def lw_tm (i : Nat) : Term := Term.string "ColdestSaysSo$Tape" (([43, 55, 67, 71, 73, 75, 77] : List Nat).getD i 0)
set_option maxHeartbeats 4000000 in
set_option maxRecDepth 100000 in
theorem lw_txt {args : Array Value} {s : State} {A : Nat → Prop} (hs : ∀ w ∈ flatC (Jvm.Cond.and given_1 narrow_1), w.before args s = true) (hA : ∀ a : Nat, a < s.heap.size → ¬ A a) : ∃ adK adV : Nat → Nat, vk_S 7 az_tl az_tb8 adK adV A s s.heap ∧ ∀ i : Nat, i < 7 → (lw_tm i).eval args s none [] s = some (.ref (adK i)) := by
  have a1 : ∀ i, i < 7 → Cond.exactly (lw_tm i) "java/lang/String" ∈ flatC (Jvm.Cond.and given_1 narrow_1) := by decide +kernel
  have a2 : ∀ i, i < 7 → Cond.eq (.field (lw_tm i) "java/lang/String" "coder" "B") (.int 0) ∈ flatC (Jvm.Cond.and given_1 narrow_1) := by decide +kernel
  have a3 : ∀ i, i < 7 → Cond.arrayOf (.field (lw_tm i) "java/lang/String" "value" "[B") .byte ∈ flatC (Jvm.Cond.and given_1 narrow_1) := by decide +kernel
  have a4 : ∀ i, i < 7 → Cond.eq (.length (.field (lw_tm i) "java/lang/String" "value" "[B")) (.int (Int32.ofNat (az_tl.getD i 0))) ∈ flatC (Jvm.Cond.and given_1 narrow_1) := by decide +kernel
  have a5 : ∀ i, i < 7 → ∀ j, j < az_tl.getD i 0 → Cond.eq (.elem (.field (lw_tm i) "java/lang/String" "value" "[B") (.int (Int32.ofNat j))) (.int ((az_tb8.getD i []).getD j 0)) ∈ flatC (Jvm.Cond.and given_1 narrow_1) := by decide +kernel
  have a6 : ∀ i, i < 7 → ∀ j, j < 7 → i ≠ j → (Cond.not (Cond.eq (lw_tm i) (lw_tm j)) ∈ flatC (Jvm.Cond.and given_1 narrow_1) ∨ Cond.not (Cond.eq (lw_tm j) (lw_tm i)) ∈ flatC (Jvm.Cond.and given_1 narrow_1)) := by decide +kernel
  exact vk_Sof (N := 7) (tm := lw_tm) (len := az_tl) (byt := az_tb8) (A := A) (by decide) (fun i hi => hs _ (a1 i hi)) (fun i hi => hs _ (a2 i hi)) (fun i hi => hs _ (a3 i hi)) (fun i hi => hs _ (a4 i hi)) (fun i hi j hj => hs _ (a5 i hi j hj)) (fun i j hi hj h => (a6 i hi j hj h).imp (hs _) (hs _)) hA
set_option maxHeartbeats 4000000 in
set_option maxRecDepth 100000 in
theorem lw_strs {args : Array Value} {s : State} {adK ext : Nat → Nat} (hs : ∀ w ∈ flatC (Jvm.Cond.and given_1 narrow_1), w.before args s = true) (hts : ∀ w ∈ lw_tbl, w.before args s = true) (hev : ∀ i : Nat, i < 7 → (lw_tm i).eval args s none [] s = some (.ref (adK i))) (he : ∀ i, i < 7 → ext (2000 + i) = adK i) : ∀ q ∈ az_strs, vk_R q.1 q.2.1 (az_tx.getD q.2.2 "") (ext (2000 + q.2.2)) s := by
  intro q hq
  unfold az_strs at hq
  simp only [List.mem_cons, List.not_mem_nil, or_false] at hq
  rcases hq with rfl | rfl | rfl | rfl | rfl | rfl | rfl | rfl | rfl | rfl | rfl | rfl | rfl | rfl
  · rw [he 0 (by decide)]
    exact vk_R.of (hts _ (List.mem_of_getElem? (i := 513) rfl)) (hev 0 (by decide))
  · rw [he 1 (by decide)]
    exact vk_R.of (hts _ (List.mem_of_getElem? (i := 576) rfl)) (hev 1 (by decide))
  · rw [he 2 (by decide)]
    exact vk_R.of (hts _ (List.mem_of_getElem? (i := 581) rfl)) (hev 2 (by decide))
  · rw [he 3 (by decide)]
    exact vk_R.of (hts _ (List.mem_of_getElem? (i := 582) rfl)) (hev 3 (by decide))
  · rw [he 4 (by decide)]
    exact vk_R.of (hts _ (List.mem_of_getElem? (i := 583) rfl)) (hev 4 (by decide))
  · rw [he 5 (by decide)]
    exact vk_R.of (hts _ (List.mem_of_getElem? (i := 584) rfl)) (hev 5 (by decide))
  · rw [he 6 (by decide)]
    exact vk_R.of (hts _ (List.mem_of_getElem? (i := 585) rfl)) (hev 6 (by decide))
  · rw [he 0 (by decide)]
    obtain ⟨a, _, _, _, ha, -⟩ := Cond.exactly_spec (t := .string "ColdestSaysSoModel" 198) (cls := "java/lang/String") (hs _ (by decide +kernel))
    have e := lw_refs (t := lw_tm 0) (u := .string "ColdestSaysSoModel" 198) (hs _ (by decide +kernel)) (hev 0 (by decide)) ha
    subst e
    exact vk_R.of (hts _ (List.mem_of_getElem? (i := 1257) rfl)) ha
  · rw [he 1 (by decide)]
    obtain ⟨a, _, _, _, ha, -⟩ := Cond.exactly_spec (t := .string "ColdestSaysSoModel" 200) (cls := "java/lang/String") (hs _ (by decide +kernel))
    have e := lw_refs (t := lw_tm 1) (u := .string "ColdestSaysSoModel" 200) (hs _ (by decide +kernel)) (hev 1 (by decide)) ha
    subst e
    exact vk_R.of (hts _ (List.mem_of_getElem? (i := 1276) rfl)) ha
  · rw [he 2 (by decide)]
    obtain ⟨a, _, _, _, ha, -⟩ := Cond.exactly_spec (t := .string "ColdestSaysSoModel" 190) (cls := "java/lang/String") (hs _ (by decide +kernel))
    have e := lw_refs (t := lw_tm 2) (u := .string "ColdestSaysSoModel" 190) (hs _ (by decide +kernel)) (hev 2 (by decide)) ha
    subst e
    exact vk_R.of (hts _ (List.mem_of_getElem? (i := 1277) rfl)) ha
  · rw [he 3 (by decide)]
    obtain ⟨a, _, _, _, ha, -⟩ := Cond.exactly_spec (t := .string "ColdestSaysSoModel" 205) (cls := "java/lang/String") (hs _ (by decide +kernel))
    have e := lw_refs (t := lw_tm 3) (u := .string "ColdestSaysSoModel" 205) (hs _ (by decide +kernel)) (hev 3 (by decide)) ha
    subst e
    exact vk_R.of (hts _ (List.mem_of_getElem? (i := 1282) rfl)) ha
  · rw [he 4 (by decide)]
    obtain ⟨a, _, _, _, ha, -⟩ := Cond.exactly_spec (t := .string "ColdestSaysSoModel" 206) (cls := "java/lang/String") (hs _ (by decide +kernel))
    have e := lw_refs (t := lw_tm 4) (u := .string "ColdestSaysSoModel" 206) (hs _ (by decide +kernel)) (hev 4 (by decide)) ha
    subst e
    exact vk_R.of (hts _ (List.mem_of_getElem? (i := 1283) rfl)) ha
  · rw [he 5 (by decide)]
    obtain ⟨a, _, _, _, ha, -⟩ := Cond.exactly_spec (t := .string "ColdestSaysSoModel" 207) (cls := "java/lang/String") (hs _ (by decide +kernel))
    have e := lw_refs (t := lw_tm 5) (u := .string "ColdestSaysSoModel" 207) (hs _ (by decide +kernel)) (hev 5 (by decide)) ha
    subst e
    exact vk_R.of (hts _ (List.mem_of_getElem? (i := 1284) rfl)) ha
  · rw [he 6 (by decide)]
    obtain ⟨a, _, _, _, ha, -⟩ := Cond.exactly_spec (t := .string "ColdestSaysSoModel" 208) (cls := "java/lang/String") (hs _ (by decide +kernel))
    have e := lw_refs (t := lw_tm 6) (u := .string "ColdestSaysSoModel" 208) (hs _ (by decide +kernel)) (hev 6 (by decide)) ha
    subst e
    exact vk_R.of (hts _ (List.mem_of_getElem? (i := 1285) rfl)) ha
set_option maxHeartbeats 4000000 in
set_option maxRecDepth 100000 in
theorem lw_amb {s : State} {b L : Nat} {xs : Nat → Int32} (hL : L < 2 ^ 31) (hts : ∀ w ∈ lw_tbl, w.before #[Value.ref b] s = true) (hX : va_X b L xs s s.heap) (hbl : b < s.heap.size) (hgv : (Jvm.Cond.and given_1 narrow_1).before #[Value.ref b] s = true) : ∃ G : az_Gh, G.1 = s.heap.size ∧ G.2.1 1003 = b ∧ G.2.2.2.2 = (L, xs) ∧ az_amb G s := by
  have hs := flat_of_before _ hgv
  have hA : ∀ a : Nat, a < s.heap.size → ¬ (fun q : Nat => s.heap.size ≤ q) a := fun a h => Nat.not_le.mpr h
  obtain ⟨D, hD⟩ := Classical.axiomOfChoice (lw_cls hts)
  obtain ⟨a0, k0, p0, f0, g0, e0⟩ := Cond.arrayClass_spec (hts _ (List.mem_of_getElem? (i := 163) rfl))
  obtain ⟨a1, k1, p1, f1, g1, e1⟩ := Cond.arrayClass_spec (hts _ (List.mem_of_getElem? (i := 279) rfl))
  obtain ⟨p2, a2, k2, f2, -, g2, e2, n2⟩ := Cond.arrayOver_spec (hts _ (List.mem_of_getElem? (i := 256) rfl))
  obtain ⟨p3, a3, k3, f3, g3, e3, n3⟩ := Cond.arrayOver_specA (hts _ (List.mem_of_getElem? (i := 998) rfl))
  obtain ⟨p4, a4, k4, f4, g4, e4, n4⟩ := Cond.arrayOver_specA (hts _ (List.mem_of_getElem? (i := 1000) rfl))
  obtain ⟨t0, Z0, T0⟩ := lw_st1000 hs hts hA
  obtain ⟨t1, Z1, T1⟩ := lw_st1001 hs hts hA
  obtain ⟨t2, Z2, T2⟩ := lw_st1002 hs hts hA
  obtain ⟨adK, adV, hS, hev⟩ := lw_txt hs hA
  have hco := va_Zof (C := "java/lang/String") (n := "COMPACT_STRINGS") (d := "Z") (v := .int 1) (hts _ (List.mem_of_getElem? (i := 527) rfl)) (hts _ (List.mem_of_getElem? (i := 76) rfl)) (va_eqt (z := 1) (hs _ (by decide +kernel))) hA
  have hfo : ∃ t4 : Nat, va_Z "jdk/internal/util/Preconditions" "SIOOBE_FORMATTER" "Ljava/util/function/BiFunction;" (.ref t4) (fun q : Nat => s.heap.size ≤ q) s s.heap ∨ va_Z "jdk/internal/util/Preconditions" "SIOOBE_FORMATTER" "Ljava/util/function/BiFunction;" .null (fun q : Nat => s.heap.size ≤ q) s s.heap := by
    rcases va_Zqof (C := "jdk/internal/util/Preconditions") (n := "SIOOBE_FORMATTER") (d := "Ljava/util/function/BiFunction;") (hts _ (List.mem_of_getElem? (i := 543) rfl)) (hts _ (List.mem_of_getElem? (i := 78) rfl)) (hs _ (by decide +kernel)) hA with h | ⟨t, h⟩
    · exact ⟨0, Or.inr h⟩
    · exact ⟨t, Or.inl h⟩
  obtain ⟨t4, hfo⟩ := hfo
  let ext : Nat → Nat := fun k => if k = 1000 then t0 else if k = 1001 then t1 else if k = 1002 then t2 else if k = 1003 then b else if k = 1004 then t4 else if k < 3000 then adK (k - 2000) else adV (k - 3000)
  have x2 : ∀ i, i < 7 → ext (2000 + i) = adK i := by
    intro i hi
    show (if 2000 + i = 1000 then t0 else if 2000 + i = 1001 then t1 else if 2000 + i = 1002 then t2 else if 2000 + i = 1003 then b else if 2000 + i = 1004 then t4 else if 2000 + i < 3000 then adK (2000 + i - 2000) else adV (2000 + i - 3000)) = adK i
    rw [if_neg (by omega), if_neg (by omega), if_neg (by omega), if_neg (by omega), if_neg (by omega), if_pos (by omega), Nat.add_sub_cancel_left]
  have x3 : ∀ i, i < 7 → ext (3000 + i) = adV i := by
    intro i hi
    show (if 3000 + i = 1000 then t0 else if 3000 + i = 1001 then t1 else if 3000 + i = 1002 then t2 else if 3000 + i = 1003 then b else if 3000 + i = 1004 then t4 else if 3000 + i < 3000 then adK (3000 + i - 2000) else adV (3000 + i - 3000)) = adV i
    rw [if_neg (by omega), if_neg (by omega), if_neg (by omega), if_neg (by omega), if_neg (by omega), if_neg (by omega), Nat.add_sub_cancel_left]
  refine ⟨(s.heap.size, ext, (fun c => (D c).1, fun c => (D c).2), (fun k => if k = 0 then a0 else if k = 1 then a1 else if k = 2 then a2 else if k = 3 then a3 else a4), (L, xs)), rfl, rfl, rfl, ?_⟩
  refine ⟨Nat.le_refl _, ⟨fun c q hq => hD c q hq, fun k q hk => ?_⟩, fun w hw => va_Nw.of (az_nest_on hw) (hts w (az_nest_in w hw)), lw_strs hs hts hev x2, ⟨fun i hi => ?_, fun i j hi hj h => ?_⟩, ⟨Z0, Z1, Z2⟩, fun k h1 h2 => ?_, hco, va_AO.of (hts _ (List.mem_of_getElem? (i := 256) rfl)), Jvm.Stand.arrayOver_alikeB (Jvm.Vm.Alike.refl _) (hts _ (List.mem_of_getElem? (i := 998) rfl)), Jvm.Stand.arrayOver_alikeB (Jvm.Vm.Alike.refl _) (hts _ (List.mem_of_getElem? (i := 1000) rfl)), hfo⟩
  · have hl : k < 5 := (List.getElem?_eq_some_iff.mp hk).1
    have h5 : k = 0 ∨ k = 1 ∨ k = 2 ∨ k = 3 ∨ k = 4 := by omega
    rcases h5 with rfl | rfl | rfl | rfl | rfl
    · cases hk; exact ⟨fun n z => ⟨fun k h => (by cases h), k0, g0, p0, e0⟩, f0⟩
    · cases hk; exact ⟨fun n z => ⟨fun k h => (by cases h), k1, g1, p1, e1⟩, f1⟩
    · cases hk; exact ⟨fun n z => ⟨fun k h => (by cases h), k2, g2, p2, e2⟩, k2, p2, g2, e2, f2, n2⟩
    · cases hk; exact ⟨fun n z => ⟨fun k h => (by cases h), k3, g3, p3, e3⟩, n3⟩
    · cases hk; exact ⟨fun n z => ⟨fun k h => (by cases h), k4, g4, p4, e4⟩, n4⟩
  · have h := hS.1 i hi
    rw [← x2 i hi, ← x3 i hi] at h
    exact h
  · refine hS.2 i j hi hj ?_
    rw [← x2 i hi, ← x2 j hj]
    exact h
  · have h4 : k = 1000 ∨ k = 1001 ∨ k = 1002 ∨ k = 1003 := by omega
    rcases h4 with rfl | rfl | rfl | rfl
    · exact T0
    · exact T1
    · exact T2
    · obtain ⟨scr, q1, q2, q3, q4, q5⟩ := hX
      exact ⟨scr, q1, q2, q3, Nat.le_of_eq q4.symm, by rw [q4]; rfl, q5, hA b hbl⟩
