section AzRows2
variable {l : Launch} {G : az_Gh} {M : az_Md} {d : Nat} {F : az_Fn} {bc bs pc : Nat} {lo : List (Option Value)} {st : List Value} {S : az_St}
theorem A_getI {k ci z j idx : Nat} {fs : List (Option (Option Nat))} (hd : decode M.2.1 pc = .ok (.getfield idx, 3)) (hf : az_fl M.1.cls idx ci j) (hs : S.1[k]? = some (ci, z, fs)) (hj : fs[j]? = some none) (kk : AW l G M d F bc bs (pc + 3) lo (.int (S.2.1 k j) :: st) S) : AW l G M d F bc bs pc lo (.ref k :: st) S := by
  intro p e s m args below meth c H locs cells slots mc ms ls hC hH hS h1 h2 hl
  obtain ⟨hx, hb, hml, hr, hown, hts, hlk, ham, hnm⟩ := id hC
  obtain ⟨C, T, N, ty0, ⟨hc, h100, hin, hty, hn, hT⟩, hjN, hl9⟩ := hf
  have he := az_wl_at (G := G) hs
  rw [az_ce_obj h100] at he
  have hv : (fs.mapIdx (fun j f => az_fv G (S.2.1 k j) f))[j]? = some (.int (S.2.1 k j)) := by rw [List.getElem?_mapIdx, hj]; rfl
  have hk9 : az_ad G k = G.1 + k := az_ad_lt (Nat.lt_of_lt_of_le (az_len hs) hH.2.1)
  show W p l e _ s m args below meth c H locs cells slots _ (F0 m pc ls (.ref (az_ad G k) :: st.map (az_cv G)))
  rw [hk9]
  have kk := kk p e s m args below meth c H locs cells slots mc ms ls hC hH hS h1 h2 hl
  rcases hl9 with hl9 | ⟨host, hl9⟩
  · exact va_get hx hb hts hin hown ham.2.1 hH.2.2 k he hc j hjN (hts _ hl9) (fun x h => by rw [hT j hjN] at h; exact h) hv hd kk
  · exact va_getN hx hb hts hin hown ham.2.1 hH.2.2 k he hc j hjN (va_Nw.use rfl (ham.2.2.1 _ hl9)) (fun x h => by rw [hT j hjN] at h; exact h) hv hd kk
theorem A_getR {k ci z j idx : Nat} {r : Nat} {fs : List (Option (Option Nat))} (hd : decode M.2.1 pc = .ok (.getfield idx, 3)) (hf : az_fl M.1.cls idx ci j) (hs : S.1[k]? = some (ci, z, fs)) (hj : fs[j]? = some (some (some r))) (kk : AW l G M d F bc bs (pc + 3) lo (.ref r :: st) S) : AW l G M d F bc bs pc lo (.ref k :: st) S := by
  intro p e s m args below meth c H locs cells slots mc ms ls hC hH hS h1 h2 hl
  obtain ⟨hx, hb, hml, hr, hown, hts, hlk, ham, hnm⟩ := id hC
  obtain ⟨C, T, N, ty0, ⟨hc, h100, hin, hty, hn, hT⟩, hjN, hl9⟩ := hf
  have he := az_wl_at (G := G) hs
  rw [az_ce_obj h100] at he
  have hv : (fs.mapIdx (fun j f => az_fv G (S.2.1 k j) f))[j]? = some (.ref (az_ad G r)) := by rw [List.getElem?_mapIdx, hj]; rfl
  have hk9 : az_ad G k = G.1 + k := az_ad_lt (Nat.lt_of_lt_of_le (az_len hs) hH.2.1)
  show W p l e _ s m args below meth c H locs cells slots _ (F0 m pc ls (.ref (az_ad G k) :: st.map (az_cv G)))
  rw [hk9]
  have kk := kk p e s m args below meth c H locs cells slots mc ms ls hC hH hS h1 h2 hl
  rcases hl9 with hl9 | ⟨host, hl9⟩
  · exact va_get hx hb hts hin hown ham.2.1 hH.2.2 k he hc j hjN (hts _ hl9) (fun x h => by rw [hT j hjN] at h; exact h) hv hd kk
  · exact va_getN hx hb hts hin hown ham.2.1 hH.2.2 k he hc j hjN (va_Nw.use rfl (ham.2.2.1 _ hl9)) (fun x h => by rw [hT j hjN] at h; exact h) hv hd kk
theorem A_getN {k ci z j idx : Nat} {fs : List (Option (Option Nat))} (hd : decode M.2.1 pc = .ok (.getfield idx, 3)) (hf : az_fl M.1.cls idx ci j) (hs : S.1[k]? = some (ci, z, fs)) (hj : fs[j]? = some (some none)) (kk : AW l G M d F bc bs (pc + 3) lo (.null :: st) S) : AW l G M d F bc bs pc lo (.ref k :: st) S := by
  intro p e s m args below meth c H locs cells slots mc ms ls hC hH hS h1 h2 hl
  obtain ⟨hx, hb, hml, hr, hown, hts, hlk, ham, hnm⟩ := id hC
  obtain ⟨C, T, N, ty0, ⟨hc, h100, hin, hty, hn, hT⟩, hjN, hl9⟩ := hf
  have he := az_wl_at (G := G) hs
  rw [az_ce_obj h100] at he
  have hv : (fs.mapIdx (fun j f => az_fv G (S.2.1 k j) f))[j]? = some (.null) := by rw [List.getElem?_mapIdx, hj]; rfl
  have hk9 : az_ad G k = G.1 + k := az_ad_lt (Nat.lt_of_lt_of_le (az_len hs) hH.2.1)
  show W p l e _ s m args below meth c H locs cells slots _ (F0 m pc ls (.ref (az_ad G k) :: st.map (az_cv G)))
  rw [hk9]
  have kk := kk p e s m args below meth c H locs cells slots mc ms ls hC hH hS h1 h2 hl
  rcases hl9 with hl9 | ⟨host, hl9⟩
  · exact va_get hx hb hts hin hown ham.2.1 hH.2.2 k he hc j hjN (hts _ hl9) (fun x h => by rw [hT j hjN] at h; exact h) hv hd kk
  · exact va_getN hx hb hts hin hown ham.2.1 hH.2.2 k he hc j hjN (va_Nw.use rfl (ham.2.2.1 _ hl9)) (fun x h => by rw [hT j hjN] at h; exact h) hv hd kk
theorem az_ce_putI {G : az_Gh} {S : az_St} {k ci z j : Nat} {x : Int32} {fs : List (Option (Option Nat))} (h : ci < 100) (hj : fs[j]? = some none) : az_ce G (S.1, az_w S.2.1 k j x, S.2.2) k (ci, z, fs) = .inr (ci, (fs.mapIdx (fun j f => az_fv G (S.2.1 k j) f)).set j (.int x)) := by
  rw [az_ce_obj h]
  refine congrArg Sum.inr (congrArg (Prod.mk ci) ?_)
  apply List.ext_getElem?
  intro i
  rw [List.getElem?_mapIdx, List.getElem?_set]
  show Option.map (fun f => az_fv G (az_w S.2.1 k j x k i) f) fs[i]? = _
  rw [az_w_same]
  by_cases hi : j = i
  · subst hi
    rw [if_pos rfl, if_pos (by simpa using az_len hj), hj, az_up_self]
    rfl
  · rw [if_neg hi, List.getElem?_mapIdx, az_up_ne (fun q => hi q.symm)]
theorem A_putI {k ci z j idx : Nat} {x : Int32} {ty : FieldType} {fs : List (Option (Option Nat))} (hd : decode M.2.1 pc = .ok (.putfield idx, 3)) (hf : az_fw M.1.cls idx ci j ty) (hs : S.1[k]? = some (ci, z, fs)) (hj : fs[j]? = some none) (hna : narrow ty (.int x) = .int x) (hfi : fits ty (.int x) = true) (kk : AW l G M d F bc bs (pc + 3) lo st (S.1, az_w S.2.1 k j x, S.2.2)) : AW l G M d F bc bs pc lo (.int x :: .ref k :: st) S := by
  intro p e s m args below meth c H locs cells slots mc ms ls hC hH hS h1 h2 hl
  obtain ⟨hx, hb, hml, hr, hown, hts, hlk, ham, hnm⟩ := id hC
  obtain ⟨C, T, N, ty0, ⟨hc, h100, hin, hty, hn, hT⟩, hjN, hl9, hfin, hpd⟩ := hf
  have he := az_wl_at (G := G) hs
  rw [az_ce_obj h100] at he
  have hk9 : az_ad G k = G.1 + k := az_ad_lt (Nat.lt_of_lt_of_le (az_len hs) hH.2.1)
  show W p l e _ s m args below meth c H locs cells slots _ (F0 m pc ls (.int x :: .ref (az_ad G k) :: st.map (az_cv G)))
  rw [hk9]
  refine az_put hx hb hts hin ty0 hty hn hown ham.2.1 hH.2.2 (az_wl_D G S) hS k he hc j hjN ?_ (hT j hjN) hfin hpd hna hfi (by simpa using az_len hj) hd (fun H1 locs1 hP hz hS1 => kk p e s m args below meth c H1 locs1 cells slots mc ms ls hC ?_ hS1 h1 h2 hl)
  · rcases hl9 with hl9 | ⟨host, hl9⟩
    · exact Or.inl (hts _ hl9)
    · exact Or.inr ⟨host, va_Nw.use rfl (ham.2.2.1 _ hl9)⟩
  · exact az_hp_set hH (az_set_self hs).symm (fun i q hi => az_ce_ne (S := S) (S' := (S.1, az_w S.2.1 k j x, S.2.2)) (az_w_ne hi) rfl q) (az_ce_putI h100 hj) hz hP
theorem az_ce_putR {G : az_Gh} {S : az_St} {k ci z j r : Nat} {sh : List az_Sh} {fs : List (Option (Option Nat))} (h : ci < 100) : az_ce G (sh, S.2.1, S.2.2) k (ci, z, fs.set j (some (some r))) = .inr (ci, (fs.mapIdx (fun j f => az_fv G (S.2.1 k j) f)).set j (.ref (az_ad G r))) := by
  rw [az_ce_obj h]
  refine congrArg Sum.inr (congrArg (Prod.mk ci) ?_)
  apply List.ext_getElem?
  intro i
  rw [List.getElem?_mapIdx, List.getElem?_set, List.getElem?_set]
  by_cases hi : j = i
  · subst hi
    rw [if_pos rfl, if_pos rfl]
    by_cases hl : j < fs.length
    · rw [if_pos hl, if_pos (by simpa using hl)]; rfl
    · rw [if_neg hl, if_neg (by simpa using hl)]; rfl
  · rw [if_neg hi, if_neg hi, List.getElem?_mapIdx]
theorem A_putF {k ci z j idx r : Nat} {ty : FieldType} {fs : List (Option (Option Nat))} {sh2 : List az_Sh} (hd : decode M.2.1 pc = .ok (.putfield idx, 3)) (hf : az_ff M.1.cls idx ci j ty) (hi9 : M.1.name = "<init>") (hs : S.1[k]? = some (ci, z, fs)) (hj : j < fs.length) (hna : ∀ a, narrow ty (.ref a) = .ref a) (hfi : ∀ a, fits ty (.ref a) = true) (hsh : S.1.set k (ci, z, fs.set j (some (some r))) = sh2) (kk : AW l G M d F bc bs (pc + 3) lo st (sh2, S.2.1, S.2.2)) : AW l G M d F bc bs pc lo (.ref r :: .ref k :: st) S := by
  intro p e s m args below meth c H locs cells slots mc ms ls hC hH hS h1 h2 hl
  obtain ⟨hx, hb, hml, hr, hown, hts, hlk, ham, hnm⟩ := id hC
  subst hsh
  obtain ⟨C, T, N, ty0, ⟨hc, h100, hin, hty, hn, hT⟩, hjN, hl9, hfin, hpd, hCo⟩ := hf
  have he := az_wl_at (G := G) hs
  rw [az_ce_obj h100] at he
  have hk9 : az_ad G k = G.1 + k := az_ad_lt (Nat.lt_of_lt_of_le (az_len hs) hH.2.1)
  show W p l e _ s m args below meth c H locs cells slots _ (F0 m pc ls (.ref (az_ad G r) :: .ref (az_ad G k) :: st.map (az_cv G)))
  rw [hk9]
  refine az_putF hx hb hts hin ty0 hty hn hown ham.2.1 hH.2.2 (az_wl_D G S) hS k he hc j hjN (hts _ hl9) (hT j hjN) hCo hfin (by rw [hnm, hi9]) hpd (hna _) (hfi _) (by simpa using hj) hd (fun H1 locs1 hP hz hS1 => kk p e s m args below meth c H1 locs1 cells slots mc ms ls hC ?_ hS1 h1 h2 hl)
  exact az_hp_set hH rfl (fun i9 q hi => az_ce_ne (S := S) (S' := (S.1.set k (ci, z, fs.set j (some (some r))), S.2.1, S.2.2)) rfl rfl q) (az_ce_putR h100) hz hP
theorem A_putR {k ci z j idx r : Nat} {ty : FieldType} {fs : List (Option (Option Nat))} {sh2 : List az_Sh} (hd : decode M.2.1 pc = .ok (.putfield idx, 3)) (hf : az_fw M.1.cls idx ci j ty) (hs : S.1[k]? = some (ci, z, fs)) (hj : j < fs.length) (hna : ∀ a, narrow ty (.ref a) = .ref a) (hfi : ∀ a, fits ty (.ref a) = true) (hsh : S.1.set k (ci, z, fs.set j (some (some r))) = sh2) (kk : AW l G M d F bc bs (pc + 3) lo st (sh2, S.2.1, S.2.2)) : AW l G M d F bc bs pc lo (.ref r :: .ref k :: st) S := by
  intro p e s m args below meth c H locs cells slots mc ms ls hC hH hS h1 h2 hl
  obtain ⟨hx, hb, hml, hr, hown, hts, hlk, ham, hnm⟩ := id hC
  subst hsh
  obtain ⟨C, T, N, ty0, ⟨hc, h100, hin, hty, hn, hT⟩, hjN, hl9, hfin, hpd⟩ := hf
  have he := az_wl_at (G := G) hs
  rw [az_ce_obj h100] at he
  have hk9 : az_ad G k = G.1 + k := az_ad_lt (Nat.lt_of_lt_of_le (az_len hs) hH.2.1)
  show W p l e _ s m args below meth c H locs cells slots _ (F0 m pc ls (.ref (az_ad G r) :: .ref (az_ad G k) :: st.map (az_cv G)))
  rw [hk9]
  refine az_put hx hb hts hin ty0 hty hn hown ham.2.1 hH.2.2 (az_wl_D G S) hS k he hc j hjN (by
      rcases hl9 with hl9 | ⟨host, hl9⟩
      · exact Or.inl (hts _ hl9)
      · exact Or.inr ⟨host, va_Nw.use rfl (ham.2.2.1 _ hl9)⟩) (hT j hjN) hfin hpd (hna _) (hfi _) (by simpa using hj) hd (fun H1 locs1 hP hz hS1 => kk p e s m args below meth c H1 locs1 cells slots mc ms ls hC ?_ hS1 h1 h2 hl)
  exact az_hp_set hH rfl (fun i9 q hi => az_ce_ne (S := S) (S' := (S.1.set k (ci, z, fs.set j (some (some r))), S.2.1, S.2.2)) rfl rfl q) (az_ce_putR h100) hz hP
theorem A_iald {k n i : Nat} {x : Int32} {fs : List (Option (Option Nat))} (hd : decode M.2.1 pc = .ok (.iaload, 1)) (hs : S.1[k]? = some (100, n, fs)) (hi : i < n) (hn : n < 2 ^ 31) (hxi : x = nI i) (kk : AW l G M d F bc bs (pc + 1) lo (.int (S.2.1 k i) :: st) S) : AW l G M d F bc bs pc lo (.int x :: .ref k :: st) S := by
  intro p e s m args below meth c H locs cells slots mc ms ls hC hH hS h1 h2 hl
  obtain ⟨hx, hb, hml, hr, hown, hts, hlk, ham, hnm⟩ := id hC
  subst hxi
  have he := az_wl_at (G := G) hs
  rw [az_ce_int] at he
  have hk9 : az_ad G k = G.1 + k := az_ad_lt (Nat.lt_of_lt_of_le (az_len hs) hH.2.1)
  show W p l e _ s m args below meth c H locs cells slots _ (F0 m pc ls (.int (nI i) :: .ref (az_ad G k) :: st.map (az_cv G)))
  rw [hk9]
  have kk := kk p e s m args below meth c H locs cells slots mc ms ls hC hH hS h1 h2 hl
  refine va_iald hx hb ham.2.1 hH.2.2 k 0 he rfl (vp_in_nI hi hn) hd ?_
  rw [nI_clamp (by omega)]
  exact kk
theorem A_lald {k n i : Nat} {x : Int32} {fs : List (Option (Option Nat))} (hd : decode M.2.1 pc = .ok (.laload, 1)) (hs : S.1[k]? = some (101, n, fs)) (hi : i < n) (hn : n < 2 ^ 31) (hxi : x = nI i) (kk : AW l G M d F bc bs (pc + 1) lo (.long (S.2.2 k i) :: st) S) : AW l G M d F bc bs pc lo (.int x :: .ref k :: st) S := by
  intro p e s m args below meth c H locs cells slots mc ms ls hC hH hS h1 h2 hl
  obtain ⟨hx, hb, hml, hr, hown, hts, hlk, ham, hnm⟩ := id hC
  subst hxi
  have he := az_wl_at (G := G) hs
  rw [az_ce_long] at he
  have hk9 : az_ad G k = G.1 + k := az_ad_lt (Nat.lt_of_lt_of_le (az_len hs) hH.2.1)
  show W p l e _ s m args below meth c H locs cells slots _ (F0 m pc ls (.int (nI i) :: .ref (az_ad G k) :: st.map (az_cv G)))
  rw [hk9]
  have kk := kk p e s m args below meth c H locs cells slots mc ms ls hC hH hS h1 h2 hl
  refine va_lald hx hb ham.2.1 hH.2.2 k 1 he rfl (vp_in_nI hi hn) hd ?_
  rw [nI_clamp (by omega)]
  exact kk
theorem A_iast {k n i : Nat} {x y : Int32} {fs : List (Option (Option Nat))} (hd : decode M.2.1 pc = .ok (.iastore, 1)) (hs : S.1[k]? = some (100, n, fs)) (hi : i < n) (hn : n < 2 ^ 31) (hxi : x = nI i) (kk : AW l G M d F bc bs (pc + 1) lo st (S.1, az_w S.2.1 k i y, S.2.2)) : AW l G M d F bc bs pc lo (.int y :: .int x :: .ref k :: st) S := by
  intro p e s m args below meth c H locs cells slots mc ms ls hC hH hS h1 h2 hl
  obtain ⟨hx, hb, hml, hr, hown, hts, hlk, ham, hnm⟩ := id hC
  subst hxi
  have he := az_wl_at (G := G) hs
  rw [az_ce_int] at he
  have hk9 : az_ad G k = G.1 + k := az_ad_lt (Nat.lt_of_lt_of_le (az_len hs) hH.2.1)
  show W p l e _ s m args below meth c H locs cells slots _ (F0 m pc ls (.int y :: .int (nI i) :: .ref (az_ad G k) :: st.map (az_cv G)))
  rw [hk9]
  refine az_iast hx hb ham.2.1 hH.2.2 (az_wl_D G S) hS k 0 he rfl (vp_in_nI hi hn) hd (fun H1 locs1 hP hz hS1 => kk p e s m args below meth c H1 locs1 cells slots mc ms ls hC ?_ hS1 h1 h2 hl)
  rw [nI_clamp (by omega)] at hP
  exact az_hp_set hH (az_set_self hs).symm (fun i9 q hi => az_ce_ne (S := S) (S' := (S.1, az_w S.2.1 k i y, S.2.2)) (az_w_ne hi) rfl q) (by rw [az_ce_int, ← az_w_same]) hz hP
theorem A_last {k n i : Nat} {x : Int32} {y : Int64} {fs : List (Option (Option Nat))} (hd : decode M.2.1 pc = .ok (.lastore, 1)) (hs : S.1[k]? = some (101, n, fs)) (hi : i < n) (hn : n < 2 ^ 31) (hxi : x = nI i) (kk : AW l G M d F bc bs (pc + 1) lo st (S.1, S.2.1, az_wL S.2.2 k i y)) : AW l G M d F bc bs pc lo (.long y :: .int x :: .ref k :: st) S := by
  intro p e s m args below meth c H locs cells slots mc ms ls hC hH hS h1 h2 hl
  obtain ⟨hx, hb, hml, hr, hown, hts, hlk, ham, hnm⟩ := id hC
  subst hxi
  have he := az_wl_at (G := G) hs
  rw [az_ce_long] at he
  have hk9 : az_ad G k = G.1 + k := az_ad_lt (Nat.lt_of_lt_of_le (az_len hs) hH.2.1)
  show W p l e _ s m args below meth c H locs cells slots _ (F0 m pc ls (.long y :: .int (nI i) :: .ref (az_ad G k) :: st.map (az_cv G)))
  rw [hk9]
  refine az_last hx hb ham.2.1 hH.2.2 (az_wl_D G S) hS k 1 he rfl (vp_in_nI hi hn) hd (fun H1 locs1 hP hz hS1 => kk p e s m args below meth c H1 locs1 cells slots mc ms ls hC ?_ hS1 h1 h2 hl)
  rw [nI_clamp (by omega)] at hP
  exact az_hp_set hH (az_set_self hs).symm (fun i9 q hi => az_ce_ne (S := S) (S' := (S.1, S.2.1, az_wL S.2.2 k i y)) rfl (az_up_ne hi) q) (by rw [az_ce_long]; show Sum.inl (_, n, Sum.inr (Sum.inl (az_wL S.2.2 k i y k))) = _; unfold az_wL; rw [az_up_self]) hz hP
theorem A_aald {k t n i r : Nat} {x : Int32} {ty : FieldType} {fs : List (Option (Option Nat))} (hd : decode M.2.1 pc = .ok (.aaload, 1)) (hs : S.1[k]? = some (t, n, fs)) (ht : 102 ≤ t) (hty : (az_ty G)[t - 100]? = some (G.2.2.2.1 (t - 100), ty)) (hrf : ty.isReference = true) (hi : i < n) (hn : n < 2 ^ 31) (hxi : x = nI i) (hr9 : fs[i]? = some (some (some r))) (kk : AW l G M d F bc bs (pc + 1) lo (.ref r :: st) S) : AW l G M d F bc bs pc lo (.int x :: .ref k :: st) S := by
  intro p e s m args below meth c H locs cells slots mc ms ls hC hH hS h1 h2 hl
  obtain ⟨hx, hb, hml, hr, hown, hts, hlk, ham, hnm⟩ := id hC
  subst hxi
  have he := az_wl_at (G := G) hs
  rw [az_ce_ref ht] at he
  have hk9 : az_ad G k = G.1 + k := az_ad_lt (Nat.lt_of_lt_of_le (az_len hs) hH.2.1)
  show W p l e _ s m args below meth c H locs cells slots _ (F0 m pc ls (.int (nI i) :: .ref (az_ad G k) :: st.map (az_cv G)))
  rw [hk9]
  have kk := kk p e s m args below meth c H locs cells slots mc ms ls hC hH hS h1 h2 hl
  have hq : az_rq G fs i = some (az_ad G r) := by unfold az_rq; rw [hr9]; rfl
  refine W.aald (v := .ref (az_ad G r)) hx hb (hH.2.2 k _ he) ((ham.2.1.2 (t - 100) _ hty).1 n (fun j => va_rf (az_rq G fs j))) hrf (fun q => by cases q) (by show ¬ (nI i < 0 ∨ (arrV _ _ _).slots.size ≤ _); rw [arrV_size]; exact vp_in_nI hi hn) (by show (arrV _ _ _).slots[_]? = _; rw [nI_clamp (by omega), arrV_read _ _ hi, hq]; rfl) rfl rfl hd kk
theorem A_alenI {k n : Nat} {fs : List (Option (Option Nat))} (hd : decode M.2.1 pc = .ok (.arraylength, 1)) (hs : S.1[k]? = some (100, n, fs)) (kk : AW l G M d F bc bs (pc + 1) lo (.int (nI n) :: st) S) : AW l G M d F bc bs pc lo (.ref k :: st) S := by
  intro p e s m args below meth c H locs cells slots mc ms ls hC hH hS h1 h2 hl
  obtain ⟨hx, hb, hml, hr, hown, hts, hlk, ham, hnm⟩ := id hC
  have he := az_wl_at (G := G) hs
  rw [az_ce_int] at he
  have hk9 : az_ad G k = G.1 + k := az_ad_lt (Nat.lt_of_lt_of_le (az_len hs) hH.2.1)
  show W p l e _ s m args below meth c H locs cells slots _ (F0 m pc ls (.ref (az_ad G k) :: st.map (az_cv G)))
  rw [hk9]
  exact va_alen hx hb ham.2.1 hH.2.2 k 0 he (ty := .int) rfl rfl hd (kk p e s m args below meth c H locs cells slots mc ms ls hC hH hS h1 h2 hl)
theorem A_alenL {k n : Nat} {fs : List (Option (Option Nat))} (hd : decode M.2.1 pc = .ok (.arraylength, 1)) (hs : S.1[k]? = some (101, n, fs)) (kk : AW l G M d F bc bs (pc + 1) lo (.int (nI n) :: st) S) : AW l G M d F bc bs pc lo (.ref k :: st) S := by
  intro p e s m args below meth c H locs cells slots mc ms ls hC hH hS h1 h2 hl
  obtain ⟨hx, hb, hml, hr, hown, hts, hlk, ham, hnm⟩ := id hC
  have he := az_wl_at (G := G) hs
  rw [az_ce_long] at he
  have hk9 : az_ad G k = G.1 + k := az_ad_lt (Nat.lt_of_lt_of_le (az_len hs) hH.2.1)
  show W p l e _ s m args below meth c H locs cells slots _ (F0 m pc ls (.ref (az_ad G k) :: st.map (az_cv G)))
  rw [hk9]
  exact va_alen hx hb ham.2.1 hH.2.2 k 1 he (ty := .long) rfl rfl hd (kk p e s m args below meth c H locs cells slots mc ms ls hC hH hS h1 h2 hl)
theorem A_eald {k i : Nat} {x : Int32} (hd : decode M.2.1 pc = .ok (.iaload, 1)) (hk1 : 1000 ≤ k) (hk2 : k ≤ 1003) (hi : i < (az_ex G k).1) (hn : (az_ex G k).1 < 2 ^ 31) (hxi : x = nI i) (kk : AW l G M d F bc bs (pc + 1) lo (.int ((az_ex G k).2 i) :: st) S) : AW l G M d F bc bs pc lo (.int x :: .ref k :: st) S := by
  intro p e s m args below meth c H locs cells slots mc ms ls hC hH hS h1 h2 hl
  obtain ⟨hx, hb, hml, hr, hown, hts, hlk, ham, hnm⟩ := id hC
  subst hxi
  have hk9 : az_ad G k = G.2.1 k := if_neg (by omega)
  show W p l e _ s m args below meth c H locs cells slots _ (F0 m pc ls (.int (nI i) :: .ref (az_ad G k) :: st.map (az_cv G)))
  rw [hk9]
  have kk := kk p e s m args below meth c H locs cells slots mc ms ls hC hH hS h1 h2 hl
  exact va_ti hx hb (ham.2.2.2.2.2.2.1 k hk1 hk2) hS (vp_in_nI hi hn) (v := .int ((az_ex G k).2 i)) (by rw [nI_clamp (by omega)]) hd kk
theorem A_elen {k : Nat} (hd : decode M.2.1 pc = .ok (.arraylength, 1)) (hk1 : 1000 ≤ k) (hk2 : k ≤ 1003) (kk : AW l G M d F bc bs (pc + 1) lo (.int (nI (az_ex G k).1) :: st) S) : AW l G M d F bc bs pc lo (.ref k :: st) S := by
  intro p e s m args below meth c H locs cells slots mc ms ls hC hH hS h1 h2 hl
  obtain ⟨hx, hb, hml, hr, hown, hts, hlk, ham, hnm⟩ := id hC
  have hk9 : az_ad G k = G.2.1 k := if_neg (by omega)
  show W p l e _ s m args below meth c H locs cells slots _ (F0 m pc ls (.ref (az_ad G k) :: st.map (az_cv G)))
  rw [hk9]
  exact va_tlen hx hb (ham.2.2.2.2.2.2.1 k hk1 hk2) hS rfl hd (kk p e s m args below meth c H locs cells slots mc ms ls hC hH hS h1 h2 hl)
theorem A_gets {k idx : Nat} {n : String} (hd : decode M.2.1 pc = .ok (.getstatic idx, 3)) (hk1 : 1000 ≤ k) (hZ : ∀ U, az_amb G U → az_Zs G U n k) (hl9 : az_lk M.1.cls idx "ColdestSaysSo" n "[I") (kk : AW l G M d F bc bs (pc + 3) lo (.ref k :: st) S) : AW l G M d F bc bs pc lo st S := by
  intro p e s m args below meth c H locs cells slots mc ms ls hC hH hS h1 h2 hl
  obtain ⟨hx, hb, hml, hr, hown, hts, hlk, ham, hnm⟩ := id hC
  have hk9 : az_ad G k = G.2.1 k := if_neg (by omega)
  have kk : W p l e _ s m args below meth c H locs cells slots _ (F0 m (pc + 3) ls (.ref (az_ad G k) :: st.map (az_cv G))) := kk p e s m args below meth c H locs cells slots mc ms ls hC hH hS h1 h2 hl
  rw [hk9] at kk
  rcases hl9 with hl9 | ⟨host, hl9⟩
  · exact va_gets hx hb (hZ s ham) hS hown (hts _ hl9) (fun _ h => h) hd kk
  · exact va_getsN hx hb (hZ s ham) hS hown (va_Nw.use rfl (ham.2.2.1 _ hl9)) (fun _ h => h) hd kk
theorem A_getsZ {idx : Nat} (hd : decode M.2.1 pc = .ok (.getstatic idx, 3)) (hl9 : Cond.fieldLink M.1.cls idx "java/lang/String" "COMPACT_STRINGS" "Z" ∈ az_tb) (kk : AW l G M d F bc bs (pc + 3) lo (.int 1 :: st) S) : AW l G M d F bc bs pc lo st S := by
  intro p e s m args below meth c H locs cells slots mc ms ls hC hH hS h1 h2 hl
  obtain ⟨hx, hb, hml, hr, hown, hts, hlk, ham, hnm⟩ := id hC
  exact va_gets hx hb ham.2.2.2.2.2.2.2.1 hS hown (hts _ hl9) (fun _ h => h) hd (kk p e s m args below meth c H locs cells slots mc ms ls hC hH hS h1 h2 hl)
theorem A_getSv {i idx : Nat} (hd : decode M.2.1 pc = .ok (.getfield idx, 3)) (hi : i < 7) (hl9 : Cond.fieldLink M.1.cls idx "java/lang/String" "value" "[B" ∈ az_tb) (kk : AW l G M d F bc bs (pc + 3) lo (.ref (3000 + i) :: st) S) : AW l G M d F bc bs pc lo (.ref (2000 + i) :: st) S := by
  intro p e s m args below meth c H locs cells slots mc ms ls hC hH hS h1 h2 hl
  obtain ⟨hx, hb, hml, hr, hown, hts, hlk, ham, hnm⟩ := id hC
  have hk9 : az_ad G (2000 + i) = G.2.1 (2000 + i) := if_neg (by omega)
  have hk8 : az_ad G (3000 + i) = G.2.1 (3000 + i) := if_neg (by omega)
  have kk : W p l e _ s m args below meth c H locs cells slots _ (F0 m (pc + 3) ls (.ref (az_ad G (3000 + i)) :: st.map (az_cv G))) := kk p e s m args below meth c H locs cells slots mc ms ls hC hH hS h1 h2 hl
  show W p l e _ s m args below meth c H locs cells slots _ (F0 m pc ls (.ref (az_ad G (2000 + i)) :: st.map (az_cv G)))
  rw [hk9]
  rw [hk8] at kk
  exact vk_getf hx hb (ham.2.2.2.2.1.1 i hi).2.2.1 hS hown (hts _ hl9) (fun _ h => h) hd kk
theorem A_getSc {i idx : Nat} (hd : decode M.2.1 pc = .ok (.getfield idx, 3)) (hi : i < 7) (hl9 : Cond.fieldLink M.1.cls idx "java/lang/String" "coder" "B" ∈ az_tb) (kk : AW l G M d F bc bs (pc + 3) lo (.int 0 :: st) S) : AW l G M d F bc bs pc lo (.ref (2000 + i) :: st) S := by
  intro p e s m args below meth c H locs cells slots mc ms ls hC hH hS h1 h2 hl
  obtain ⟨hx, hb, hml, hr, hown, hts, hlk, ham, hnm⟩ := id hC
  have hk9 : az_ad G (2000 + i) = G.2.1 (2000 + i) := if_neg (by omega)
  show W p l e _ s m args below meth c H locs cells slots _ (F0 m pc ls (.ref (az_ad G (2000 + i)) :: st.map (az_cv G)))
  rw [hk9]
  exact vk_getf hx hb (ham.2.2.2.2.1.1 i hi).2.1 hS hown (hts _ hl9) (fun _ h => h) hd (kk p e s m args below meth c H locs cells slots mc ms ls hC hH hS h1 h2 hl)
theorem A_blen {i : Nat} (hd : decode M.2.1 pc = .ok (.arraylength, 1)) (hi : i < 7) (kk : AW l G M d F bc bs (pc + 1) lo (.int (nI (az_tl.getD i 0)) :: st) S) : AW l G M d F bc bs pc lo (.ref (3000 + i) :: st) S := by
  intro p e s m args below meth c H locs cells slots mc ms ls hC hH hS h1 h2 hl
  obtain ⟨hx, hb, hml, hr, hown, hts, hlk, ham, hnm⟩ := id hC
  have hk9 : az_ad G (3000 + i) = G.2.1 (3000 + i) := if_neg (by omega)
  show W p l e _ s m args below meth c H locs cells slots _ (F0 m pc ls (.ref (az_ad G (3000 + i)) :: st.map (az_cv G)))
  rw [hk9]
  exact va_tlen hx hb (ham.2.2.2.2.1.1 i hi).2.2.2 hS rfl hd (kk p e s m args below meth c H locs cells slots mc ms ls hC hH hS h1 h2 hl)
theorem A_bald {i j : Nat} {x : Int32} (hd : decode M.2.1 pc = .ok (.baload, 1)) (hi : i < 7) (hj : j < az_tl.getD i 0) (hn : az_tl.getD i 0 < 2 ^ 31) (hxj : x = nI j) (kk : AW l G M d F bc bs (pc + 1) lo (.int ((az_tb8.getD i []).getD j 0) :: st) S) : AW l G M d F bc bs pc lo (.int x :: .ref (3000 + i) :: st) S := by
  intro p e s m args below meth c H locs cells slots mc ms ls hC hH hS h1 h2 hl
  obtain ⟨hx, hb, hml, hr, hown, hts, hlk, ham, hnm⟩ := id hC
  subst hxj
  have hk9 : az_ad G (3000 + i) = G.2.1 (3000 + i) := if_neg (by omega)
  show W p l e _ s m args below meth c H locs cells slots _ (F0 m pc ls (.int (nI j) :: .ref (az_ad G (3000 + i)) :: st.map (az_cv G)))
  rw [hk9]
  exact va_tb hx hb (ham.2.2.2.2.1.1 i hi).2.2.2 hS (vp_in_nI hj hn) (v := .int ((az_tb8.getD i []).getD j 0)) (by rw [nI_clamp (by omega)]) hd (kk p e s m args below meth c H locs cells slots mc ms ls hC hH hS h1 h2 hl)
end AzRows2
