/-! making cells -/
theorem az_hp_grow {G : az_Gh} {S S' : az_St} {H H1 : Heap} {new : List az_Sh} (hH : az_hp G S H) (hsh : S'.1 = S.1 ++ new) (hlen : S'.1.length ≤ 1000) (hsz : H1.size = H.size + new.length) (hold : ∀ q : Nat, q < H.size → H1[q]? = H[q]?) (hce : ∀ i q, i < S.1.length → az_ce G S' i q = az_ce G S i q)
    (hnew : ∀ j q, new[j]? = some q → va_at G.2.2.1 vwCl (G.1 + S.1.length + j, az_ce G S' (S.1.length + j) q) H1) : az_hp G S' H1 := by
  refine ⟨by rw [hsz, hH.1, hsh, List.length_append, Nat.add_assoc], hlen, fun k x hx => ?_⟩
  obtain ⟨q, hq, rfl⟩ := az_wl_in hx
  rw [hsh] at hq
  by_cases hk : k < S.1.length
  · rw [List.getElem?_append_left hk] at hq
    rw [hce k q hk]
    exact (hH.2.2 k _ (az_wl_at hq)).kept (hold _ (by show G.1 + k < H.size; rw [hH.1]; omega))
  · rw [List.getElem?_append_right (by omega)] at hq
    have := hnew _ q hq
    rw [show S.1.length + (k - S.1.length) = k by omega, show G.1 + S.1.length + (k - S.1.length) = G.1 + k by omega] at this
    exact this
/-- nothing yet in the cells from n on -/
def az_z {α : Type} [Zero α] (s : Nat → Nat → α) (n : Nat) : Nat → Nat → α := fun k => if n ≤ k then fun _ => 0 else s k
theorem az_z_lt {s : Nat → Nat → Int32} {n k : Nat} (h : k < n) : az_z s n k = s k := if_neg (by omega)
theorem az_z_ge {s : Nat → Nat → Int32} {n k : Nat} (h : n ≤ k) : az_z s n k = fun _ => 0 := if_pos h
theorem az_zL_lt {s : Nat → Nat → Int64} {n k : Nat} (h : k < n) : az_z s n k = s k := if_neg (by omega)
theorem az_zL_ge {s : Nat → Nat → Int64} {n k : Nat} (h : n ≤ k) : az_z s n k = fun _ => 0 := if_pos h
theorem az_ce_grow {G : az_Gh} {S : az_St} {sh : List az_Sh} {i : Nat} (h : i < S.1.length) (q : az_Sh) : az_ce G (sh, az_z S.2.1 S.1.length, az_z S.2.2 S.1.length) i q = az_ce G S i q := az_ce_ne (az_z_lt h) (az_zL_lt h) q
theorem az_S_grow {A : Nat → Prop} {H0 H H1 : Heap} {locs : List Loc} {n : Nat} (hS : va_S A H0 H locs) (hz : H1.size = H.size + n) (ho : ∀ q : Nat, q < H.size → H1[q]? = H[q]?) : va_S A H0 H1 locs :=
  ⟨Nat.le_trans hS.1 (by omega), fun x h1 h2 => (ho x (Nat.lt_of_lt_of_le h1 hS.1)).trans (hS.2.1 x h1 h2), hS.2.2⟩
theorem az_arr_int : Cond.arrayClass .int ∈ az_tb := az_tw 163 rfl rfl
theorem az_arr_long : Cond.arrayClass .long ∈ az_tb := az_tw 279 rfl rfl
section AzRows3
variable {l : Launch} {G : az_Gh} {M : az_Md} {d : Nat} {F : az_Fn} {bc bs pc : Nat} {lo : List (Option Value)} {st : List Value} {S : az_St}
theorem A_newI {n bc2 bs2 : Nat} {x : Int32} (hd : decode M.2.1 pc = .ok (.newarray .int, 2)) (hn : n ≤ 100000) (hxn : x = nI n) (hb1 : bc2 + 1 ≤ bc) (hb2 : bs2 + n ≤ bs) (hlen : S.1.length < 1000) (kk : AW l G M d F bc2 bs2 (pc + 2) lo (.ref S.1.length :: st) (S.1 ++ [(100, n, [])], az_z S.2.1 S.1.length, az_z S.2.2 S.1.length)) : AW l G M d F bc bs pc lo (.int x :: st) S := by
  intro p e s m args below meth c H locs cells slots mc ms ls hC hH hS h1 h2 hl
  obtain ⟨hx, hb, hml, hr, hown, hts, hlk, ham, hnm⟩ := id hC
  subst hxn
  refine va_newaK hx hb (atype := .int) (hts _ az_arr_int) rfl hd rfl (nI_pos (by omega)) (nI_clamp (by omega)) (by show n * 4 ≤ _; omega) (by show _ ≤ mc; omega) (by show _ ≤ ms; omega) hH.1 (fun H1 cA e1 z1 o1 hAr hNm => ?_)
  have hcA : cA = G.2.2.2.1 0 := Option.some.inj (hNm.symm.trans (ham.2.1.2 0 _ rfl).2)
  subst hcA
  rw [← hH.1] at o1 z1
  have kk := kk p e s m args below meth c H1 locs (cells + 1) (slots + n) mc ms ls hC (az_hp_grow hH rfl (by simp; omega) z1 o1 (fun i q h => az_ce_grow h q) (fun j q hq => ?_)) (az_S_grow hS z1 o1) (by omega) (by omega) hl
  · rw [List.map_cons, show az_cv G (.ref S.1.length) = .ref (G.1 + S.1.length) from congrArg Value.ref (az_ad_lt hlen)] at kk
    exact kk
  · have hj : j < 1 := az_len hq
    have hj : j = 0 := by omega
    subst hj
    cases hq
    rw [az_ce_int]
    show H1[G.1 + S.1.length]? = _
    rw [e1]
    show _ = some (vp_cell _ (n, Sum.inl (az_z S.2.1 S.1.length (S.1.length + 0))))
    rw [az_z_ge (by omega)]
    rfl
theorem A_newL {n bc2 bs2 : Nat} {x : Int32} (hd : decode M.2.1 pc = .ok (.newarray .long, 2)) (hn : n ≤ 100000) (hxn : x = nI n) (hb1 : bc2 + 1 ≤ bc) (hb2 : bs2 + n ≤ bs) (hlen : S.1.length < 1000) (kk : AW l G M d F bc2 bs2 (pc + 2) lo (.ref S.1.length :: st) (S.1 ++ [(101, n, [])], az_z S.2.1 S.1.length, az_z S.2.2 S.1.length)) : AW l G M d F bc bs pc lo (.int x :: st) S := by
  intro p e s m args below meth c H locs cells slots mc ms ls hC hH hS h1 h2 hl
  obtain ⟨hx, hb, hml, hr, hown, hts, hlk, ham, hnm⟩ := id hC
  subst hxn
  refine va_newaK hx hb (atype := .long) (hts _ az_arr_long) rfl hd rfl (nI_pos (by omega)) (nI_clamp (by omega)) (by show n * 8 ≤ _; omega) (by show _ ≤ mc; omega) (by show _ ≤ ms; omega) hH.1 (fun H1 cA e1 z1 o1 hAr hNm => ?_)
  have hcA : cA = G.2.2.2.1 1 := Option.some.inj (hNm.symm.trans (ham.2.1.2 1 _ rfl).2)
  subst hcA
  rw [← hH.1] at o1 z1
  have kk := kk p e s m args below meth c H1 locs (cells + 1) (slots + n) mc ms ls hC (az_hp_grow hH rfl (by simp; omega) z1 o1 (fun i q h => az_ce_grow h q) (fun j q hq => ?_)) (az_S_grow hS z1 o1) (by omega) (by omega) hl
  · rw [List.map_cons, show az_cv G (.ref S.1.length) = .ref (G.1 + S.1.length) from congrArg Value.ref (az_ad_lt hlen)] at kk
    exact kk
  · have hj : j < 1 := az_len hq
    have hj : j = 0 := by omega
    subst hj
    cases hq
    rw [az_ce_long]
    show H1[G.1 + S.1.length]? = _
    rw [e1]
    show _ = some (vp_cell _ (n, Sum.inr (Sum.inl (az_z S.2.2 S.1.length (S.1.length + 0)))))
    rw [az_zL_ge (by omega)]
    rfl
/-- what a class's fresh object holds -/
def az_df (N : Nat) (ty0 : Nat → FieldType) : List (Option (Option Nat)) := (List.range N).map (fun j => if (ty0 j).isReference then some none else none)
theorem A_newO {ci idx bc2 bs2 N : Nat} {C : String} {T : u_T} {ty0 : Nat → FieldType} {fs : List (Option (Option Nat))} (hd : decode M.2.1 pc = .ok (.new idx, 3)) (hcl : az_cl ci C T N ty0) (hw1 : Cond.classLink M.1.cls idx C ∈ az_tb) (hw2 : Cond.instantiable C N ∈ az_tb) (hw3 : Cond.initialized C ∈ az_tb) (hfs : fs = az_df N ty0) (hdf : ∀ j, j < N → (ty0 j).isReference = true ∨ defaultValue (ty0 j) = .int 0) (hb1 : bc2 + 1 ≤ bc) (hb2 : bs2 + N ≤ bs) (hlen : S.1.length < 1000) (kk : AW l G M d F bc2 bs2 (pc + 3) lo (.ref S.1.length :: st) (S.1 ++ [(ci, 0, fs)], az_z S.2.1 S.1.length, az_z S.2.2 S.1.length)) : AW l G M d F bc bs pc lo st S := by
  intro p e s m args below meth c H locs cells slots mc ms ls hC hH hS h1 h2 hl
  obtain ⟨hx, hb, hml, hr, hown, hts, hlk, ham, hnm⟩ := id hC
  obtain ⟨hc, h100, hin, hty, hn, hT⟩ := hcl
  have hKn := ham.2.1.1 ci _ hc
  refine W.newcK hx hb hown (hts _ hw1) (hts _ hw2) (hts _ hw3) rfl hd (by show _ ≤ mc; omega) (by show _ ≤ ms; omega) hKn.2.1 hH.1 (fun H1 kC hkC e1 z1 o1 => ?_)
  rw [← hH.1] at o1 z1
  have kk := kk p e s m args below meth c H1 locs (cells + 1) (slots + N) mc ms ls hC (az_hp_grow hH rfl (by simp; omega) z1 o1 (fun i q h => az_ce_grow h q) (fun j q hq => ?_)) (az_S_grow hS z1 o1) (by omega) (by omega) hl
  · rw [List.map_cons, show az_cv G (.ref S.1.length) = .ref (G.1 + S.1.length) from congrArg Value.ref (az_ad_lt hlen)] at kk
    exact kk
  · have hj : j < 1 := az_len hq
    have hj : j = 0 := by omega
    subst hj
    cases hq
    rw [az_ce_obj h100]
    refine ⟨_, hc, (u_born ty0 hts hin hKn hkC e1 hty).to (fun j hj => ?_)⟩
    show _ = vp_V (fs.mapIdx _) j
    unfold vp_V
    rw [List.getD_eq_getElem?_getD, List.getElem?_mapIdx, hfs]
    unfold az_df
    rw [List.getElem?_map, List.getElem?_range hj]
    show _ = az_fv G _ (if (ty0 j).isReference = true then some none else none)
    by_cases hrf : (ty0 j).isReference = true
    · rw [if_pos hrf]
      show _ = Value.null
      cases hq : ty0 j <;> rw [hq] at hrf <;> first | rfl | (exact absurd hrf (by decide))
    · rw [if_neg hrf]
      show _ = Value.int (az_z S.2.1 S.1.length (S.1.length + 0) j)
      rw [az_z_ge (by omega)]
      rcases hdf j hj with h | h
      · exact absurd h hrf
      · exact h
theorem A_newQ {idx n bc2 bs2 : Nat} {x : Int32} (hd : decode M.2.1 pc = .ok (.anewarray idx, 3)) (hw1 : Cond.classLink M.1.cls idx "ColdestSaysSo$Shelf" ∈ az_tb) (hn : n ≤ 100000) (hxn : x = nI n) (hb1 : bc2 + 1 ≤ bc) (hb2 : bs2 + n ≤ bs) (hlen : S.1.length < 1000) (kk : AW l G M d F bc2 bs2 (pc + 3) lo (.ref S.1.length :: st) (S.1 ++ [(102, n, List.replicate n (some none))], az_z S.2.1 S.1.length, az_z S.2.2 S.1.length)) : AW l G M d F bc bs pc lo (.int x :: st) S := by
  intro p e s m args below meth c H locs cells slots mc ms ls hC hH hS h1 h2 hl
  obtain ⟨hx, hb, hml, hr, hown, hts, hlk, ham, hnm⟩ := id hC
  subst hxn
  have hcl := nI_clamp (show n < 2 ^ 31 by omega)
  refine W.anew hx hb hown (hts _ hw1) (va_AO.use ham.2.2.2.2.2.2.2.2.1) rfl hd rfl (nI_pos (by omega)) (by rw [hcl]; omega) (by show _ ≤ mc; omega) (by rw [hcl]; show _ ≤ ms; omega) (fun cA kA comp f1 f2 f3 f4 => ?_)
  rw [hcl]
  have hcA : cA = G.2.2.2.1 2 := by
    obtain ⟨kA2, comp2, g1, g2, g3, g4⟩ := (ham.2.1.2 2 _ rfl).2
    exact Option.some.inj (f1.symm.trans g4)
  subst hcA
  generalize hH1 : H.push ({ cls := G.2.2.2.1 2, slots := Array.replicate n .null, vm := .none } : Cell) = H1
  have z1 : H1.size = H.size + 1 := by rw [← hH1, Array.size_push]
  have e1 : H1[H.size]? = some (arrV (G.2.2.2.1 2) n (fun _ => .null)) := by rw [← hH1, Array.getElem?_push_size, ← arrV_new]
  have o1 : ∀ q : Nat, q < H.size → H1[q]? = H[q]? := fun q hq => by rw [← hH1, Array.getElem?_push, if_neg (Nat.ne_of_lt hq)]
  have kk := kk p e s m args below meth c H1 locs (cells + 1) (slots + n) mc ms ls hC (az_hp_grow hH rfl (by simp; omega) z1 o1 (fun i q h => az_ce_grow h q) (fun j q hq => ?_)) (az_S_grow hS z1 o1) (by omega) (by omega) hl
  · rw [List.map_cons, show az_cv G (.ref S.1.length) = .ref (G.1 + S.1.length) from congrArg Value.ref (az_ad_lt hlen), ← hH.1] at kk
    exact kk
  · have hj : j < 1 := az_len hq
    have hj : j = 0 := by omega
    subst hj
    cases hq
    rw [az_ce_ref (by omega)]
    show H1[G.1 + S.1.length]? = _
    rw [← hH.1, e1]
    show _ = some (vp_cell _ (n, _))
    rw [vp_cell_q]
    refine congrArg (fun f => some (arrV _ n f)) (funext fun i => ?_)
    unfold az_rq
    rw [List.getElem?_replicate]
    by_cases hi : i < n
    · rw [if_pos hi]; rfl
    · rw [if_neg hi]; rfl
end AzRows3
