/-! arrays of arrays, arrays of objects; the rows over a store given by its three parts -/
theorem az_outer (c : ClassId) (N h0 : Nat) : ∀ i : Nat, Jvm.Free.Multi.outerC c N h0 i = arrV c N (fun j => va_rf (if j < i then some (h0 + 1 + j) else none))
  | 0 => by
    show ({ cls := c, slots := Array.replicate N .null, vm := .none } : Cell) = _
    rw [arrV_new]
    refine congrArg (arrV c N) (funext fun j => ?_)
    simp [va_rf]
  | i + 1 => by
    show (Jvm.Free.Multi.outerC c N h0 i).setSlot i (.ref (h0 + 1 + i)) = _
    rw [az_outer c N h0 i, arrV_store]
    refine congrArg (arrV c N) (funext fun j => ?_)
    by_cases e : j = i
    · subst e
      simp [updV, va_rf]
    · by_cases h : j < i
      · simp [updV, e, h, Nat.lt_succ_of_lt h]
      · simp [updV, e, h, show ¬ j < i + 1 by omega]
def az_gr (n N : Nat) : List (Option (Option Nat)) := (List.range N).map (fun j => some (some (n + 1 + j)))
section AzRows6
variable {l : Launch} {G : az_Gh} {M : az_Md} {d : Nat} {F : az_Fn} {bc bs pc : Nat} {lo : List (Option Value)} {st : List Value} {S : az_St}
/-- new T[N][K] of longs (t 103) or ints (t 104) -/
theorem A_mna {idx t u N K bc2 bs2 : Nat} {ty : FieldType} {xn xk : Int32} (hd : decode M.2.1 pc = .ok (.multianewarray idx 2, 4)) (hw1 : Cond.classLink M.1.cls idx ("[" ++ (FieldType.array ty).toString) ∈ az_tb) (hcase : (t = 103 ∧ u = 101 ∧ ty = .long) ∨ (t = 104 ∧ u = 100 ∧ ty = .int)) (hN : N ≤ 1000) (hK : K ≤ 1000) (exn : xn = nI N) (exk : xk = nI K) (hb1 : bc2 + (1 + N) ≤ bc) (hb2 : bs2 + (N + N * K) ≤ bs) (hlen : S.1.length + (1 + N) ≤ 1000)
    (kk : AW l G M d F bc2 bs2 (pc + 4) lo (.ref S.1.length :: st) (S.1 ++ ((t, N, az_gr S.1.length N) :: List.replicate N (u, K, [])), az_z S.2.1 S.1.length, az_z S.2.2 S.1.length)) : AW l G M d F bc bs pc lo (.int xk :: .int xn :: st) S := by
  intro p e s m args below meth c H locs cells slots mc ms ls hC hH hS h1 h2 hl
  obtain ⟨hx, hb, hml, hr, hown, hts, hlk, ham, hnm⟩ := id hC
  subst exn; subst exk
  have zN := nI_clamp (show N < 2 ^ 31 by omega)
  have zK := nI_clamp (show K < 2 ^ 31 by omega)
  have hAO : (Cond.arrayOver (.array ty)).before args s = true := by
    rcases hcase with ⟨-, -, rfl⟩ | ⟨-, -, rfl⟩
    · exact ham.2.2.2.2.2.2.2.2.2.1
    · exact ham.2.2.2.2.2.2.2.2.2.2.1
  have hAC : (Cond.arrayClass ty).before args s = true := by
    rcases hcase with ⟨-, -, rfl⟩ | ⟨-, -, rfl⟩
    · exact hts _ az_arr_long
    · exact hts _ az_arr_int
  have hcb : componentBytes ty ≤ 8 := by
    rcases hcase with ⟨-, -, rfl⟩ | ⟨-, -, rfl⟩ <;> decide
  intro T hT X
  obtain ⟨vm₁, cA, comp, -, fA, fC, -, -, X', step⟩ := X.multianewarray2F hx hown (hts _ hw1) hAO hAC (g := F0 m pc ls (.int (nI K) :: .int (nI N) :: st.map (az_cv G))) rfl (by rw [hb]; exact hd) rfl (nI_pos (by omega)) (nI_pos (by omega)) (by rw [zN]; omega) (by rw [zK]; have := Nat.mul_le_mul hK hcb; omega) (by rw [zK]; omega) (by rcases hcase with ⟨-, -, rfl⟩ | ⟨-, -, rfl⟩ <;> rfl) (by rcases hcase with ⟨-, -, rfl⟩ | ⟨-, -, rfl⟩ <;> rfl) (by rw [zN]; show _ ≤ mc; omega) (by rw [zN, zK]; show _ ≤ ms; omega)
  rw [zN, zK] at X' step
  generalize hF : Jvm.Free.Multi.fill (T.setVm vm₁) cA comp N K (defaultValue ty) N = FF at X' step
  have hTh : (T.setVm vm₁).heap = H := hT
  obtain ⟨f1, f2, -, -⟩ := Jvm.Free.Multi.fill_facts (T.setVm vm₁) cA comp N K (defaultValue ty) N
  rw [hF, hTh] at f1 f2
  have hold : ∀ x : Nat, x < H.size → FF.heap[x]? = H[x]? := fun x hx9 => by
    have := Jvm.Free.Multi.fill_old (T.setVm vm₁) cA comp N K (defaultValue ty) (a := x) (by rw [hTh]; exact hx9) N
    rw [hF, hTh] at this
    exact this
  have hrow : ∀ j : Nat, j < N → FF.heap[H.size + 1 + j]? = some (Jvm.Free.Multi.innerC comp K (defaultValue ty)) := fun j hj => by
    have := Jvm.Free.Multi.fill_inner (T.setVm vm₁) cA comp N K (defaultValue ty) N j hj
    rw [hF, hTh] at this
    exact this
  rw [az_outer] at f2
  have hcells : FF.heap.size = H.size + ((t, N, az_gr S.1.length N) :: List.replicate N (u, K, [])).length := by
    rw [f1]; simp; omega
  have hnew : az_hp G (S.1 ++ ((t, N, az_gr S.1.length N) :: List.replicate N (u, K, [])), az_z S.2.1 S.1.length, az_z S.2.2 S.1.length) FF.heap := by
    refine az_hp_grow hH rfl (by simp; omega) hcells hold (fun i q h => az_ce_grow h q) (fun j q hq => ?_)
    match j, hq with
    | 0, hq =>
      cases hq
      rw [az_ce_ref (by rcases hcase with ⟨rfl, -, -⟩ | ⟨rfl, -, -⟩ <;> omega)]
      show FF.heap[G.1 + S.1.length]? = some (vp_cell _ (N, _))
      rw [← hH.1, f2, vp_cell_q]
      have hcA : cA = G.2.2.2.1 (t - 100) := by
        rcases hcase with ⟨rfl, -, rfl⟩ | ⟨rfl, -, rfl⟩
        · exact Option.some.inj (fA.symm.trans (ham.2.1.2 3 _ rfl).2)
        · exact Option.some.inj (fA.symm.trans (ham.2.1.2 4 _ rfl).2)
      rw [hcA]
      refine congrArg some ?_
      unfold arrV
      refine congrArg (fun z => ({ cls := _, slots := z, vm := .none } : Cell)) ?_
      apply Array.ext
      · simp
      · intro i h1 h2
        simp only [Array.getElem_ofFn]
        have hi : i < N := by simpa using h1
        rw [if_pos hi]
        unfold az_rq az_gr
        rw [List.getElem?_map, List.getElem?_range hi]
        show va_rf _ = va_rf (some (az_ad G (S.1.length + 1 + i)))
        rw [az_ad_lt (by omega), hH.1]
        congr 2
        omega
    | j + 1, hq =>
      rw [List.getElem?_cons_succ, List.getElem?_replicate] at hq
      split at hq
      · rename_i hj
        cases hq
        have hr9 := hrow j hj
        rw [show H.size + 1 + j = G.1 + S.1.length + (j + 1) by rw [hH.1]; omega] at hr9
        rcases hcase with ⟨-, rfl, rfl⟩ | ⟨-, rfl, rfl⟩
        · rw [az_ce_long]
          show FF.heap[_]? = some (vp_cell _ (K, Sum.inr (Sum.inl (az_z S.2.2 S.1.length _))))
          rw [hr9, az_zL_ge (by omega)]
          have hco : comp = G.2.2.2.1 1 := Option.some.inj (fC.symm.trans (ham.2.1.2 1 _ rfl).2)
          rw [hco]
          refine congrArg some ?_
          exact arrV_new _ K _
        · rw [az_ce_int]
          show FF.heap[_]? = some (vp_cell _ (K, Sum.inl (az_z S.2.1 S.1.length _)))
          rw [hr9, az_z_ge (by omega)]
          have hco : comp = G.2.2.2.1 0 := Option.some.inj (fC.symm.trans (ham.2.1.2 0 _ rfl).2)
          rw [hco]
          refine congrArg some ?_
          exact arrV_new _ K _
      · cases hq
  obtain ⟨t9, a1, b1⟩ := kk p e s m args below meth c FF.heap locs (cells + 1 + N) (slots + N + N * K) mc ms ls hC hnew (az_S_grow hS hcells hold) (by omega) (by omega) hl FF rfl X'
  refine ⟨t9, step t9 ?_, b1⟩
  have e9 : (T.heap.size : Nat) = G.1 + S.1.length := by rw [hT]; exact hH.1
  rw [e9]
  rw [List.map_cons, show az_cv G (.ref S.1.length) = .ref (G.1 + S.1.length) from congrArg Value.ref (az_ad_lt (by omega))] at a1
  exact a1
theorem A_aast {k r ci z9 n i N : Nat} {x : Int32} {T : u_T} {ty0 : Nat → FieldType} {fs gs : List (Option (Option Nat))} {sh2 : List az_Sh} (hd : decode M.2.1 pc = .ok (.aastore, 1)) (hcl : az_cl ci "ColdestSaysSo$Shelf" T N ty0) (hs : S.1[k]? = some (102, n, fs)) (hs2 : S.1[r]? = some (ci, z9, gs)) (hfl : fs.length = n) (hi : i < n) (hn : n < 2 ^ 31) (hxi : x = nI i) (hsh : S.1.set k (102, n, fs.set i (some (some r))) = sh2) (kk : AW l G M d F bc bs (pc + 1) lo st (sh2, S.2.1, S.2.2)) : AW l G M d F bc bs pc lo (.ref r :: .int x :: .ref k :: st) S := by
  intro p e s m args below meth c H locs cells slots mc ms ls hC hH hS h1 h2 hl
  obtain ⟨hx, hb, hml, hr, hown, hts, hlk, ham, hnm⟩ := id hC
  subst hxi; subst hsh
  have he := az_wl_at (G := G) hs
  rw [az_ce_ref (by omega)] at he
  have he2 := az_wl_at (G := G) hs2
  rw [az_ce_obj hcl.2.1] at he2
  have hk9 : az_ad G k = G.1 + k := az_ad_lt (Nat.lt_of_lt_of_le (az_len hs) hH.2.1)
  have hk8 : az_ad G r = G.1 + r := az_ad_lt (Nat.lt_of_lt_of_le (az_len hs2) hH.2.1)
  show W p l e _ s m args below meth c H locs cells slots _ (F0 m pc ls (.ref (az_ad G r) :: .int (nI i) :: .ref (az_ad G k) :: st.map (az_cv G)))
  rw [hk9, hk8]
  refine az_astq hx hb ham.2.1 hH.2.2 (az_wl_D G S) hS k 2 r ci he rfl he2 hcl.1 (vp_in_nI hi hn) hd (fun H1 locs1 hP hz hS1 => kk p e s m args below meth c H1 locs1 cells slots mc ms ls hC ?_ hS1 h1 h2 hl)
  rw [nI_clamp (by omega)] at hP
  refine az_hp_set hH rfl (fun i9 q hi => az_ce_ne (S := S) (S' := (S.1.set k (102, n, fs.set i (some (some r))), S.2.1, S.2.2)) rfl rfl q) ?_ hz hP
  rw [az_ce_ref (by omega)]
  refine congrArg (fun z => Sum.inl (_, n, Sum.inr (Sum.inr (Sum.inr (Sum.inr z))))) (funext fun j => ?_)
  unfold az_rq
  rw [List.getElem?_set]
  by_cases hj : i = j
  · subst hj
    rw [if_pos rfl, if_pos (by omega), az_up_self, ← hk8]
    rfl
  · rw [if_neg hj, az_up_ne (fun q => hj q.symm)]
end AzRows6
/-- a layout of cells, from a base on -/
def az_at (sh : List az_Sh) (b : Nat) (L : List az_Sh) : Prop := ∀ k q, L[k]? = some q → sh[b + k]? = some q
section AzB
variable {l : Launch} {G : az_Gh} {M : az_Md} {d : Nat} {F : az_Fn} {bc bs pc : Nat} {lo : List (Option Value)} {st : List Value} {sh : List az_Sh} {sg : Nat → Nat → Int32} {la : Nat → Nat → Int64}
theorem B_getI {k ci z j idx : Nat} {fs : List (Option (Option Nat))} (hd : decode M.2.1 pc = .ok (.getfield idx, 3)) (hf : az_fl M.1.cls idx ci j) (hs : sh[k]? = some (ci, z, fs)) (hj : fs[j]? = some none) (kk : AW l G M d F bc bs (pc + 3) lo (.int (sg k j) :: st) (sh, sg, la)) : AW l G M d F bc bs pc lo (.ref k :: st) (sh, sg, la) := A_getI hd hf hs hj kk
theorem B_getR {k ci z j idx r : Nat} {fs : List (Option (Option Nat))} (hd : decode M.2.1 pc = .ok (.getfield idx, 3)) (hf : az_fl M.1.cls idx ci j) (hs : sh[k]? = some (ci, z, fs)) (hj : fs[j]? = some (some (some r))) (kk : AW l G M d F bc bs (pc + 3) lo (.ref r :: st) (sh, sg, la)) : AW l G M d F bc bs pc lo (.ref k :: st) (sh, sg, la) := A_getR hd hf hs hj kk
theorem B_getN {k ci z j idx : Nat} {fs : List (Option (Option Nat))} (hd : decode M.2.1 pc = .ok (.getfield idx, 3)) (hf : az_fl M.1.cls idx ci j) (hs : sh[k]? = some (ci, z, fs)) (hj : fs[j]? = some (some none)) (kk : AW l G M d F bc bs (pc + 3) lo (.null :: st) (sh, sg, la)) : AW l G M d F bc bs pc lo (.ref k :: st) (sh, sg, la) := A_getN hd hf hs hj kk
theorem B_putI {k ci z j idx : Nat} {x : Int32} {fs : List (Option (Option Nat))} (hd : decode M.2.1 pc = .ok (.putfield idx, 3)) (hf : az_fw M.1.cls idx ci j .int) (hs : sh[k]? = some (ci, z, fs)) (hj : fs[j]? = some none) (kk : AW l G M d F bc bs (pc + 3) lo st (sh, az_w sg k j x, la)) : AW l G M d F bc bs pc lo (.int x :: .ref k :: st) (sh, sg, la) := A_putI hd hf hs hj rfl rfl kk
theorem B_putZ {k ci z j idx : Nat} {x : Int32} {fs : List (Option (Option Nat))} (hd : decode M.2.1 pc = .ok (.putfield idx, 3)) (hf : az_fw M.1.cls idx ci j .boolean) (hs : sh[k]? = some (ci, z, fs)) (hj : fs[j]? = some none) (hna : narrow .boolean (.int x) = .int x) (hfi : fits .boolean (.int x) = true) (kk : AW l G M d F bc bs (pc + 3) lo st (sh, az_w sg k j x, la)) : AW l G M d F bc bs pc lo (.int x :: .ref k :: st) (sh, sg, la) := A_putI hd hf hs hj hna hfi kk
theorem B_putF {k ci z j idx r : Nat} {ty : FieldType} {fs : List (Option (Option Nat))} {sh2 : List az_Sh} (hd : decode M.2.1 pc = .ok (.putfield idx, 3)) (hf : az_ff M.1.cls idx ci j ty) (hi9 : M.1.name = "<init>") (hs : sh[k]? = some (ci, z, fs)) (hj : j < fs.length) (hna : ∀ a, narrow ty (.ref a) = .ref a) (hfi : ∀ a, fits ty (.ref a) = true) (hsh : sh.set k (ci, z, fs.set j (some (some r))) = sh2) (kk : AW l G M d F bc bs (pc + 3) lo st (sh2, sg, la)) : AW l G M d F bc bs pc lo (.ref r :: .ref k :: st) (sh, sg, la) := A_putF hd hf hi9 hs hj hna hfi hsh kk
theorem B_putR {k ci z j idx r : Nat} {ty : FieldType} {fs : List (Option (Option Nat))} {sh2 : List az_Sh} (hd : decode M.2.1 pc = .ok (.putfield idx, 3)) (hf : az_fw M.1.cls idx ci j ty) (hs : sh[k]? = some (ci, z, fs)) (hj : j < fs.length) (hna : ∀ a, narrow ty (.ref a) = .ref a) (hfi : ∀ a, fits ty (.ref a) = true) (hsh : sh.set k (ci, z, fs.set j (some (some r))) = sh2) (kk : AW l G M d F bc bs (pc + 3) lo st (sh2, sg, la)) : AW l G M d F bc bs pc lo (.ref r :: .ref k :: st) (sh, sg, la) := A_putR hd hf hs hj hna hfi hsh kk
theorem B_iald {k n i : Nat} {x : Int32} {fs : List (Option (Option Nat))} (hd : decode M.2.1 pc = .ok (.iaload, 1)) (hs : sh[k]? = some (100, n, fs)) (hn : n < 2 ^ 31) (hxi : x = nI i) (hi : i < n) (kk : AW l G M d F bc bs (pc + 1) lo (.int (sg k i) :: st) (sh, sg, la)) : AW l G M d F bc bs pc lo (.int x :: .ref k :: st) (sh, sg, la) := A_iald hd hs hi hn hxi kk
theorem B_lald {k n i : Nat} {x : Int32} {fs : List (Option (Option Nat))} (hd : decode M.2.1 pc = .ok (.laload, 1)) (hs : sh[k]? = some (101, n, fs)) (hn : n < 2 ^ 31) (hxi : x = nI i) (hi : i < n) (kk : AW l G M d F bc bs (pc + 1) lo (.long (la k i) :: st) (sh, sg, la)) : AW l G M d F bc bs pc lo (.int x :: .ref k :: st) (sh, sg, la) := A_lald hd hs hi hn hxi kk
theorem B_iast {k n i : Nat} {x y : Int32} {fs : List (Option (Option Nat))} (hd : decode M.2.1 pc = .ok (.iastore, 1)) (hs : sh[k]? = some (100, n, fs)) (hn : n < 2 ^ 31) (hxi : x = nI i) (hi : i < n) (kk : AW l G M d F bc bs (pc + 1) lo st (sh, az_w sg k i y, la)) : AW l G M d F bc bs pc lo (.int y :: .int x :: .ref k :: st) (sh, sg, la) := A_iast hd hs hi hn hxi kk
theorem B_last {k n i : Nat} {x : Int32} {y : Int64} {fs : List (Option (Option Nat))} (hd : decode M.2.1 pc = .ok (.lastore, 1)) (hs : sh[k]? = some (101, n, fs)) (hn : n < 2 ^ 31) (hxi : x = nI i) (hi : i < n) (kk : AW l G M d F bc bs (pc + 1) lo st (sh, sg, az_wL la k i y)) : AW l G M d F bc bs pc lo (.long y :: .int x :: .ref k :: st) (sh, sg, la) := A_last hd hs hi hn hxi kk
theorem B_aald {k t n i r : Nat} {x : Int32} {ty : FieldType} {fs : List (Option (Option Nat))} (hd : decode M.2.1 pc = .ok (.aaload, 1)) (hs : sh[k]? = some (t, n, fs)) (ht : 102 ≤ t) (hty : (az_ty G)[t - 100]? = some (G.2.2.2.1 (t - 100), ty)) (hrf : ty.isReference = true) (hn : n < 2 ^ 31) (hxi : x = nI i) (hi : i < n) (hr9 : fs[i]? = some (some (some r))) (kk : AW l G M d F bc bs (pc + 1) lo (.ref r :: st) (sh, sg, la)) : AW l G M d F bc bs pc lo (.int x :: .ref k :: st) (sh, sg, la) := A_aald hd hs ht hty hrf hi hn hxi hr9 kk
theorem B_alenI {k n : Nat} {fs : List (Option (Option Nat))} (hd : decode M.2.1 pc = .ok (.arraylength, 1)) (hs : sh[k]? = some (100, n, fs)) (kk : AW l G M d F bc bs (pc + 1) lo (.int (nI n) :: st) (sh, sg, la)) : AW l G M d F bc bs pc lo (.ref k :: st) (sh, sg, la) := A_alenI hd hs kk
theorem B_alenL {k n : Nat} {fs : List (Option (Option Nat))} (hd : decode M.2.1 pc = .ok (.arraylength, 1)) (hs : sh[k]? = some (101, n, fs)) (kk : AW l G M d F bc bs (pc + 1) lo (.int (nI n) :: st) (sh, sg, la)) : AW l G M d F bc bs pc lo (.ref k :: st) (sh, sg, la) := A_alenL hd hs kk
theorem B_copyI {k k2 n0 n1 sp dp n idx : Nat} {xs xd xn : Int32} {f0 f1 : List (Option (Option Nat))} (hd : decode M.2.1 pc = .ok (.invokestatic idx, 3)) (hw : Cond.methodLink M.1.cls idx arraycopyName ∈ az_tb) (hw2 : Cond.native arraycopyName ∈ az_tb) (hw3 : Cond.static arraycopyName ∈ az_tb) (hw4 : Cond.initialized "java/lang/System" ∈ az_tb) (hs : sh[k]? = some (100, n0, f0)) (hs2 : sh[k2]? = some (100, n1, f1)) (es : xs = nI sp) (ed : xd = nI dp) (en : xn = nI n) (h4 : sp + n ≤ n0) (h5 : dp + n ≤ n1) (b1 : n0 < 2 ^ 31) (b2 : n1 < 2 ^ 31) (hdd : 2 ≤ d) (hcat : (st.map fun v => v.category).sum ≤ 8)
    (kk : AW l G M d F bc bs (pc + 3) lo st (sh, va_up sg k2 (va_cpy (sg k) (sg k2) sp dp n), la)) : AW l G M d F bc bs pc lo (.int xn :: .int xd :: .ref k2 :: .int xs :: .ref k :: st) (sh, sg, la) := A_copyI hd hw hw2 hw3 hw4 hs hs2 es ed en h4 h5 b1 b2 hdd hcat kk
theorem B_copyL {k k2 n0 n1 sp dp n idx : Nat} {xs xd xn : Int32} {f0 f1 : List (Option (Option Nat))} (hd : decode M.2.1 pc = .ok (.invokestatic idx, 3)) (hw : Cond.methodLink M.1.cls idx arraycopyName ∈ az_tb) (hw2 : Cond.native arraycopyName ∈ az_tb) (hw3 : Cond.static arraycopyName ∈ az_tb) (hw4 : Cond.initialized "java/lang/System" ∈ az_tb) (hs : sh[k]? = some (101, n0, f0)) (hs2 : sh[k2]? = some (101, n1, f1)) (es : xs = nI sp) (ed : xd = nI dp) (en : xn = nI n) (h4 : sp + n ≤ n0) (h5 : dp + n ≤ n1) (b1 : n0 < 2 ^ 31) (b2 : n1 < 2 ^ 31) (hdd : 2 ≤ d) (hcat : (st.map fun v => v.category).sum ≤ 8)
    (kk : AW l G M d F bc bs (pc + 3) lo st (sh, sg, va_up la k2 (va_cpy (la k) (la k2) sp dp n))) : AW l G M d F bc bs pc lo (.int xn :: .int xd :: .ref k2 :: .int xs :: .ref k :: st) (sh, sg, la) := A_copyL hd hw hw2 hw3 hw4 hs hs2 es ed en h4 h5 b1 b2 hdd hcat kk
end AzB
